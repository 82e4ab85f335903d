/-! Contracts of the reference: seek, move, enter, a step, work. Laid by wip/gen/model4.py. -/
set_option maxRecDepth 100000 in
set_option maxHeartbeats 4000000 in
theorem xm_cseekI (P : xw_T) (σ τ : xf_T) (d : Nat) (hd4 : d ≤ 4) (ho : xm_okP (xw_n P) (xw_w P) τ) {X : xf_C} (hX : xf_ok X (xw_l P) xnR_MO xnc_MO_seek 4 4 90 (xw_W P) (xw_D P) (xw_ty P)) {RES : Option Nat × (Nat → Int32)} (hE : xf_end X none (fun v u => v = none ∧ u = (σ, xm_res τ RES))) (RS : Bool × (Nat → Int32)) (hf : RS.1 = true → RES = (some d, RS.2)) (hn : ¬ RS.1 = true → ∀ x3, xf_V X 64 [some (.ref (xw_a P 100)), some (.int (nI (2 * (xw_w P) * (xw_w P) ^ d))), some (.int (nI d)), x3] [] (σ, xs_sA τ 9 RS.2)) : ∀ r x pt, r + x = 2 * (xw_w P) * (xw_w P) ^ d → xe_sn (xw_w P) (xm_sb (τ.1 6)) (xm_nb (xw_w P) τ) (τ.2 1) d r x pt = RS → xf_V X 16 [some (.ref (xw_a P 100)), some (.int (nI (2 * (xw_w P) * (xw_w P) ^ d))), some (.int (nI d)), some (.int (nI x))] [] (σ, xs_sA τ 9 pt) := by
  have hw0 := ho.2
  have hpw := xm_pw (w := (xw_w P)) (k := d) (by omega) (by omega)
  have hmx : 2 * (xw_w P) * (xw_w P) ^ d ≤ 8 * 1024 := Nat.mul_le_mul (by omega) hpw.2
  intro r
  induction r with
  | zero =>
    intro x pt hrx hR
    refine xf_iload_n hX 17 rfl 3 xnd_MO_seek_16 rfl rfl ?_
    refine xf_iload_n hX 18 rfl 1 xnd_MO_seek_17 rfl rfl ?_
    refine xf_icmp_ge hX 21 rfl 64 xnd_MO_seek_18 (by decide) (fun _ => ?_) (fun h18 => absurd (nI_le (by omega) (by omega)) h18)
    rw [xe_sn] at hR
    rw [show pt = RS.2 by rw [← hR]]
    exact hn (by rw [← hR]; exact Bool.false_ne_true) _
  | succ r ih =>
    intro x pt hrx hR
    have hxl : x < 2 * (xw_w P) * (xw_w P) ^ d := by omega
    rw [xe_sn] at hR
    by_cases hc : (xe_ld (xw_w P) (xm_sb (τ.1 6)) (xm_nb (xw_w P) τ) (τ.2 1) d (d + 1) 0 x ((xw_w P) ^ d) pt).1 = true
    · refine xf_iload_n hX 17 rfl 3 xnd_MO_seek_16 rfl rfl ?_
      refine xf_iload_n hX 18 rfl 1 xnd_MO_seek_17 rfl rfl ?_
      refine xf_icmp_ge hX 21 rfl 64 xnd_MO_seek_18 (by decide) (fun h18 => absurd h18 (nI_ge (by omega) (by omega))) (fun _ => ?_)
      refine xf_aload_n hX 22 rfl 0 xnd_MO_seek_21 rfl rfl ?_
      refine xf_iload_n hX 23 rfl 3 xnd_MO_seek_22 rfl rfl ?_
      refine xf_iload_n hX 24 rfl 2 xnd_MO_seek_23 rfl rfl ?_
      refine xf_V2i hX 27 rfl (xm_cleads P _ _ _ _ _ hd4 hxl ho) xq_MO_leads xk_MO_171 xrM_MO rfl rfl xnd_MO_seek_24 ?_
      rw [if_pos hc]
      refine xf_if_eq hX 30 rfl 58 xnd_MO_seek_27 (by decide) (fun h27 => False.elim (by revert h27; decide)) (fun _ => ?_)
      refine xf_aload_n hX 31 rfl 0 xnd_MO_seek_30 rfl rfl ?_
      refine xf_iload_n hX 32 rfl 2 xnd_MO_seek_31 rfl rfl ?_
      refine xp_MO_last hX 35 rfl xk_MO_175 xnd_MO_seek_32 ?_
      refine xf_aload_n hX 36 rfl 0 xnd_MO_seek_35 rfl rfl ?_
      refine xf_iload_n hX 37 rfl 2 xnd_MO_seek_36 rfl rfl ?_
      refine xf_iconst hX 38 rfl (1) xnd_MO_seek_37 (by decide) ?_
      refine xf_isub hX 39 rfl xnd_MO_seek_38 ?_
      refine xp_MO_from hX 42 rfl xk_MO_178 xnd_MO_seek_39 ?_
      refine xf_aload_n hX 43 rfl 0 xnd_MO_seek_42 rfl rfl ?_
      refine xf_iload_n hX 44 rfl 2 xnd_MO_seek_43 rfl rfl ?_
      refine xf_if_le hX 47 rfl 52 xnd_MO_seek_44 (by decide) (fun h44 => ?_) (fun h44 => ?_)
      · refine xf_bipush hX 54 rfl (8) xnd_MO_seek_52 (by decide) ?_
        refine xp_MO_next hX 57 rfl xk_MO_99 xnd_MO_seek_54 ?_
        refine xf_vret hX hE xnd_MO_seek_57 ?_
        rw [if_pos hc] at hR
        rw [hf (by rw [← hR]), ← hR]
        refine ⟨rfl, ?_⟩
        simp only [xm_res, h44, if_true, if_false]
      · refine xf_bipush hX 49 rfl (6) xnd_MO_seek_47 (by decide) ?_
        refine xf_goto hX 54 xnd_MO_seek_49 (by decide) ?_
        refine xp_MO_next hX 57 rfl xk_MO_99 xnd_MO_seek_54 ?_
        refine xf_vret hX hE xnd_MO_seek_57 ?_
        rw [if_pos hc] at hR
        rw [hf (by rw [← hR]), ← hR]
        refine ⟨rfl, ?_⟩
        simp only [xm_res, h44, if_true, if_false]
    · refine xf_iload_n hX 17 rfl 3 xnd_MO_seek_16 rfl rfl ?_
      refine xf_iload_n hX 18 rfl 1 xnd_MO_seek_17 rfl rfl ?_
      refine xf_icmp_ge hX 21 rfl 64 xnd_MO_seek_18 (by decide) (fun h18 => absurd h18 (nI_ge (by omega) (by omega))) (fun _ => ?_)
      refine xf_aload_n hX 22 rfl 0 xnd_MO_seek_21 rfl rfl ?_
      refine xf_iload_n hX 23 rfl 3 xnd_MO_seek_22 rfl rfl ?_
      refine xf_iload_n hX 24 rfl 2 xnd_MO_seek_23 rfl rfl ?_
      refine xf_V2i hX 27 rfl (xm_cleads P _ _ _ _ _ hd4 hxl ho) xq_MO_leads xk_MO_171 xrM_MO rfl rfl xnd_MO_seek_24 ?_
      rw [if_neg hc]
      refine xf_if_eq hX 30 rfl 58 xnd_MO_seek_27 (by decide) (fun _ => ?_) (fun h27 => False.elim (by revert h27; decide))
      refine xf_iinc hX 61 rfl (nI (x + 1)) xnd_MO_seek_58 rfl (by rw [nI_succ]; rfl) (by decide) ?_
      dsimp only [List.set]
      refine xf_goto hX 16 xnd_MO_seek_61 (by decide) ?_
      rw [if_neg hc] at hR
      exact ih (x + 1) _ (by omega) hR

set_option maxRecDepth 100000 in
set_option maxHeartbeats 4000000 in
theorem xm_cseekL (P : xw_T) (σ τ : xf_T) (ho : xm_okP (xw_n P) (xw_w P) τ) {X : xf_C} (hX : xf_ok X (xw_l P) xnR_MO xnc_MO_seek 4 4 90 (xw_W P) (xw_D P) (xw_ty P)) {RES : Option Nat × (Nat → Int32)} (hE : xf_end X none (fun v u => v = none ∧ u = (σ, xm_res τ RES))) : ∀ r d pt x3, r + d = 5 → xe_sd (xw_w P) (xm_sb (τ.1 6)) (xm_nb (xw_w P) τ) (τ.2 1) r d pt = RES → xf_V X 9 [some (.ref (xw_a P 100)), some (.int (nI (2 * (xw_w P) * (xw_w P) ^ d))), some (.int (nI d)), x3] [] (σ, xs_sA τ 9 pt) := by
  have hw0 := ho.2
  intro r
  induction r with
  | zero =>
    intro d pt x3 hrd hR
    have hpw := xm_pw (w := (xw_w P)) (k := d) (by omega) (by omega)
    refine xf_iload_n hX 10 rfl 2 xnd_MO_seek_9 rfl rfl ?_
    refine xf_iconst hX 11 rfl (4) xnd_MO_seek_10 (by decide) ?_
    refine xf_icmp_gt hX 14 rfl 77 xnd_MO_seek_11 (by decide) (fun _ => ?_) (fun h11 => absurd (show (4 : Int32) < nI d from nI_lt (a := 4) (by omega) (by omega)) h11)
    refine xf_aload_n hX 78 rfl 0 xnd_MO_seek_77 rfl rfl ?_
    refine xf_bipush hX 80 rfl (6) xnd_MO_seek_78 (by decide) ?_
    refine xf_V1v hX 83 rfl (xm_cfin P _ _ _) xq_MO_finish xk_MO_130 xrM_MO rfl rfl xnd_MO_seek_80 ?_
    refine xf_vret hX hE xnd_MO_seek_83 ?_
    rw [xe_sd] at hR
    rw [← hR]
    exact ⟨rfl, rfl⟩
  | succ r ih =>
    intro d pt x3 hrd hR
    rw [xe_sd] at hR
    refine xf_iload_n hX 10 rfl 2 xnd_MO_seek_9 rfl rfl ?_
    refine xf_iconst hX 11 rfl (4) xnd_MO_seek_10 (by decide) ?_
    refine xf_icmp_gt hX 14 rfl 77 xnd_MO_seek_11 (by decide) (fun h11 => absurd h11 (show ¬ (4 : Int32) < nI d from nI_nlt (b := d) (a := 4) (by omega) (by omega))) (fun _ => ?_)
    refine xf_iconst hX 15 rfl (0) xnd_MO_seek_14 (by decide) ?_
    refine xf_istore_n hX 16 rfl 3 xnd_MO_seek_15 rfl (by decide) ?_
    dsimp only [List.set]
    refine xm_cseekI P σ τ d (by omega) ho hX hE (xe_sn (xw_w P) (xm_sb (τ.1 6)) (xm_nb (xw_w P) τ) (τ.2 1) d (2 * (xw_w P) * (xw_w P) ^ d) 0 pt) ?_ ?_ (2 * (xw_w P) * (xw_w P) ^ d) 0 pt (by omega) rfl
    · intro hc
      rw [if_pos hc] at hR
      exact hR.symm
    · intro hc x3
      rw [if_neg hc] at hR
      refine xf_iload_n hX 65 rfl 1 xnd_MO_seek_64 rfl rfl ?_
      refine xf_aload_n hX 66 rfl 0 xnd_MO_seek_65 rfl rfl ?_
      refine xg_MO_ways hX 69 rfl xk_MO_69 xnd_MO_seek_66 ?_
      refine xf_imul hX 70 rfl xnd_MO_seek_69 ?_
      rw [pk_mul, show 2 * (xw_w P) * (xw_w P) ^ d * (xw_w P) = 2 * (xw_w P) * (xw_w P) ^ (d + 1) by rw [Nat.pow_succ, Nat.mul_assoc (2 * (xw_w P))]]
      refine xf_istore_n hX 71 rfl 1 xnd_MO_seek_70 rfl (by decide) ?_
      dsimp only [List.set]
      refine xf_iinc hX 74 rfl (nI (d + 1)) xnd_MO_seek_71 rfl (by rw [nI_succ]; rfl) (by decide) ?_
      dsimp only [List.set]
      refine xf_goto hX 9 xnd_MO_seek_74 (by decide) ?_
      exact ih (d + 1) _ _ (by omega) hR

set_option maxRecDepth 100000 in
set_option maxHeartbeats 4000000 in
theorem xm_cseek (P : xw_T) (σ τ : xf_T) (ho : xm_okP (xw_n P) (xw_w P) τ) : xf_F (xw_l P) xny_MO_seek xnc_MO_seek 4 none 4 90 (xw_W P) (xw_D P) (xw_ty P) [.ref (xw_a P 100)] (σ, τ) none (σ, xm_seek (xw_w P) τ) := by
  refine xf_start (own := xnR_MO) [some (.ref (xw_a P 100)), none, none, none] rfl (by decide) (Nat.le_of_ble_eq_true rfl) rfl (xf_cat rfl) ?_
  intro X hX hE
  have hw0 := ho.2
  have hsk : xm_seek (xw_w P) τ = xm_res τ (xm_sk (xw_w P) τ) := rfl
  rw [hsk] at hE
  generalize hRES : xm_sk (xw_w P) τ = RES at hE
  unfold xm_sk at hRES
  have loop := xm_cseekL P σ τ ho hX hE 5 0 (τ.2 9) none (by omega) hRES
  rw [xs_sA_id, Nat.pow_zero, Nat.mul_one] at loop
  refine xf_iconst hX 1 rfl (2) xnd_MO_seek_0 (by decide) ?_
  refine xf_aload_n hX 2 rfl 0 xnd_MO_seek_1 rfl rfl ?_
  refine xg_MO_ways hX 5 rfl xk_MO_69 xnd_MO_seek_2 ?_
  refine xf_imul hX 6 rfl xnd_MO_seek_5 ?_
  rw [show (2 : Int32) * nI (xw_w P) = nI (2 * (xw_w P)) from pk_mul 2 _]
  refine xf_istore_n hX 7 rfl 1 xnd_MO_seek_6 rfl (by decide) ?_
  dsimp only [List.set]
  refine xf_iconst hX 8 rfl (0) xnd_MO_seek_7 (by decide) ?_
  refine xf_istore_n hX 9 rfl 2 xnd_MO_seek_8 rfl (by decide) ?_
  dsimp only [List.set]
  exact loop

set_option maxRecDepth 100000 in
set_option maxHeartbeats 4000000 in
theorem xm_cmove (P : xw_T) (σ τ : xf_T) (h1 : vp_in (τ.1 12) 5) (h2 : τ.1 3 = 6 → vp_in (τ.1 12 + 1) 5 ∧ vp_in (τ.2 9 (τ.1 12 + 1).toNatClampNeg) 32) (h3 : vp_in (τ.2 9 (τ.1 12).toNatClampNeg) 32) (h5 : vp_in (xm_mi τ) 32) : xf_F (xw_l P) xny_MO_move xnc_MO_move 2 none 2 40 (xw_W P) (xw_D P) (xw_ty P) [.ref (xw_a P 100)] (σ, τ) none (σ, xm_move τ) := by
  refine xf_start (own := xnR_MO) [some (.ref (xw_a P 100)), none] rfl (by decide) (Nat.le_of_ble_eq_true rfl) rfl (xf_cat rfl) ?_
  intro X hX hE
  refine xf_aload_n hX 1 rfl 0 xnd_MO_move_0 rfl rfl ?_
  refine xg_MO_held hX 4 rfl xk_MO_7 xnd_MO_move_1 ?_
  refine xf_aload_n hX 5 rfl 0 xnd_MO_move_4 rfl rfl ?_
  refine xg_MO_path hX 8 rfl xk_MO_39 xnd_MO_move_5 ?_
  refine xf_aload_n hX 9 rfl 0 xnd_MO_move_8 rfl rfl ?_
  refine xg_MO_from hX 12 rfl xk_MO_178 xnd_MO_move_9 ?_
  refine xaM_iaload hX 13 rfl rfl h1 xnd_MO_move_12 ?_
  refine xaM_iaload hX 14 rfl rfl h3 xnd_MO_move_13 ?_
  refine xf_iconst hX 15 rfl (1) xnd_MO_move_14 (by decide) ?_
  refine xf_isub hX 16 rfl xnd_MO_move_15 ?_
  refine xf_istore_n hX 17 rfl 1 xnd_MO_move_16 rfl (by decide) ?_
  dsimp only [List.set]
  refine xf_aload_n hX 18 rfl 0 xnd_MO_move_17 rfl rfl ?_
  refine xg_MO_versions hX 21 rfl xk_MO_32 xnd_MO_move_18 ?_
  refine xf_aload_n hX 22 rfl 0 xnd_MO_move_21 rfl rfl ?_
  refine xg_MO_keys hX 25 rfl xk_MO_17 xnd_MO_move_22 ?_
  refine xf_iload_n hX 26 rfl 1 xnd_MO_move_25 rfl rfl ?_
  refine xaM_iaload hX 27 rfl rfl h5 xnd_MO_move_26 ?_
  refine xf_S1i hX 30 rfl (xm_cstr P _ _ _) xq_MO_stripe xk_MO_84 rfl rfl xnd_MO_move_27 ?_
  refine xf_dup2 hX 31 rfl xnd_MO_move_30 rfl rfl ?_
  refine xaM_iaload hX 32 rfl rfl (xs_str_in _) xnd_MO_move_31 ?_
  refine xf_iconst hX 33 rfl (1) xnd_MO_move_32 (by decide) ?_
  refine xf_iadd hX 34 rfl xnd_MO_move_33 ?_
  refine xaM_iastore hX 35 rfl rfl (xs_str_in _) xnd_MO_move_34 ?_
  refine xf_aload_n hX 36 rfl 0 xnd_MO_move_35 rfl rfl ?_
  refine xg_MO_next hX 39 rfl xk_MO_99 xnd_MO_move_36 ?_
  change xf_V X 39 _ [.int (τ.1 3)] _
  refine xf_bipush hX 41 rfl (6) xnd_MO_move_39 (by decide) ?_
  refine xf_icmp_ne hX 44 rfl 70 xnd_MO_move_41 (by decide) (fun h41 => ?_) (fun h41 => ?_)
  · refine xf_aload_n hX 71 rfl 0 xnd_MO_move_70 rfl rfl ?_
    refine xg_MO_held hX 74 rfl xk_MO_7 xnd_MO_move_71 ?_
    refine xf_aload_n hX 75 rfl 0 xnd_MO_move_74 rfl rfl ?_
    refine xg_MO_path hX 78 rfl xk_MO_39 xnd_MO_move_75 ?_
    refine xf_aload_n hX 79 rfl 0 xnd_MO_move_78 rfl rfl ?_
    refine xg_MO_from hX 82 rfl xk_MO_178 xnd_MO_move_79 ?_
    refine xaM_iaload hX 83 rfl rfl h1 xnd_MO_move_82 ?_
    refine xf_iconst hX 84 rfl (0) xnd_MO_move_83 (by decide) ?_
    refine xaM_iastore hX 85 rfl rfl h3 xnd_MO_move_84 ?_
    refine xf_aload_n hX 86 rfl 0 xnd_MO_move_85 rfl rfl ?_
    refine xf_dup hX 87 rfl xnd_MO_move_86 rfl ?_
    refine xg_MO_moves hX 90 rfl xk_MO_181 xnd_MO_move_87 ?_
    refine xf_iconst hX 91 rfl (1) xnd_MO_move_90 (by decide) ?_
    refine xf_iadd hX 92 rfl xnd_MO_move_91 ?_
    refine xp_MO_moves hX 95 rfl xk_MO_181 xnd_MO_move_92 ?_
    refine xf_aload_n hX 96 rfl 0 xnd_MO_move_95 rfl rfl ?_
    refine xf_dup hX 97 rfl xnd_MO_move_96 rfl ?_
    refine xg_MO_from hX 100 rfl xk_MO_178 xnd_MO_move_97 ?_
    refine xf_iconst hX 101 rfl (1) xnd_MO_move_100 (by decide) ?_
    refine xf_isub hX 102 rfl xnd_MO_move_101 ?_
    refine xp_MO_from hX 105 rfl xk_MO_178 xnd_MO_move_102 ?_
    refine xf_aload_n hX 106 rfl 0 xnd_MO_move_105 rfl rfl ?_
    refine xf_aload_n hX 107 rfl 0 xnd_MO_move_106 rfl rfl ?_
    refine xg_MO_from hX 110 rfl xk_MO_178 xnd_MO_move_107 ?_
    change xf_V X 110 _ (.int (τ.1 12 - 1) :: _) _
    refine xf_if_lt hX 113 rfl 118 xnd_MO_move_110 (by decide) (fun h110 => ?_) (fun h110 => ?_)
    · refine xf_bipush hX 120 rfl (8) xnd_MO_move_118 (by decide) ?_
      refine xp_MO_next hX 123 rfl xk_MO_99 xnd_MO_move_120 ?_
      refine xf_vret hX hE xnd_MO_move_123 ?_
      refine ⟨rfl, ?_⟩
      simp only [xm_move, h41, h110, if_true, if_false]
      try rfl
    · refine xf_bipush hX 115 rfl (6) xnd_MO_move_113 (by decide) ?_
      refine xf_goto hX 120 xnd_MO_move_115 (by decide) ?_
      refine xp_MO_next hX 123 rfl xk_MO_99 xnd_MO_move_120 ?_
      refine xf_vret hX hE xnd_MO_move_123 ?_
      refine ⟨rfl, ?_⟩
      simp only [xm_move, h41, h110, if_true, if_false]
      try rfl
  · refine xf_aload_n hX 45 rfl 0 xnd_MO_move_44 rfl rfl ?_
    refine xg_MO_held hX 48 rfl xk_MO_7 xnd_MO_move_45 ?_
    refine xf_aload_n hX 49 rfl 0 xnd_MO_move_48 rfl rfl ?_
    refine xg_MO_path hX 52 rfl xk_MO_39 xnd_MO_move_49 ?_
    refine xf_aload_n hX 53 rfl 0 xnd_MO_move_52 rfl rfl ?_
    refine xg_MO_from hX 56 rfl xk_MO_178 xnd_MO_move_53 ?_
    refine xf_iconst hX 57 rfl (1) xnd_MO_move_56 (by decide) ?_
    refine xf_iadd hX 58 rfl xnd_MO_move_57 ?_
    refine xaM_iaload hX 59 rfl rfl (h2 h41).1 xnd_MO_move_58 ?_
    refine xf_iload_n hX 60 rfl 1 xnd_MO_move_59 rfl rfl ?_
    refine xf_iconst hX 61 rfl (1) xnd_MO_move_60 (by decide) ?_
    refine xf_iadd hX 62 rfl xnd_MO_move_61 ?_
    refine xaM_iastore hX 63 rfl rfl (h2 h41).2 xnd_MO_move_62 ?_
    refine xf_aload_n hX 64 rfl 0 xnd_MO_move_63 rfl rfl ?_
    refine xf_bipush hX 66 rfl (7) xnd_MO_move_64 (by decide) ?_
    refine xp_MO_next hX 69 rfl xk_MO_99 xnd_MO_move_66 ?_
    refine xf_vret hX hE xnd_MO_move_69 ?_
    refine ⟨rfl, ?_⟩
    simp only [xm_move, eq_true h41, if_true, if_false]
    try rfl

set_option maxRecDepth 100000 in
set_option maxHeartbeats 4000000 in
theorem xm_center (P : xw_T) (σ τ : xf_T) (hp : vp_in (τ.2 9 0) 32) : xf_F (xw_l P) xny_MO_enter xnc_MO_enter 2 none 1 21 (xw_W P) (xw_D P) (xw_ty P) [.ref (xw_a P 100)] (σ, τ) none (σ, xm_enter τ) := by
  refine xf_start (own := xnR_MO) [some (.ref (xw_a P 100)), none] rfl (by decide) (Nat.le_of_ble_eq_true rfl) rfl (xf_cat rfl) ?_
  intro X hX hE
  have hlo := xs_low_le (τ.2 2) 31 0
  generalize hRR : xs_low (τ.2 2) 31 0 = RR at hlo
  have hi : vp_in (nI RR) 32 := vp_in_nI (by omega) (by omega)
  have ek : (nI RR).toNatClampNeg = RR := nI_clamp (by omega)
  have K : xf_V X 23 [some (.ref (xw_a P 100)), some (.int (nI RR))] [] (σ, τ) := by
    refine xf_aload_n hX 24 rfl 0 xnd_MO_enter_23 rfl rfl ?_
    refine xg_MO_taken hX 27 rfl xk_MO_13 xnd_MO_enter_24 ?_
    refine xf_iload_n hX 28 rfl 1 xnd_MO_enter_27 rfl rfl ?_
    refine xf_iconst hX 29 rfl (1) xnd_MO_enter_28 (by decide) ?_
    refine xaM_bastore hX 30 rfl rfl hi rfl xnd_MO_enter_29 ?_
    refine xf_aload_n hX 31 rfl 0 xnd_MO_enter_30 rfl rfl ?_
    refine xg_MO_keys hX 34 rfl xk_MO_17 xnd_MO_enter_31 ?_
    refine xf_iload_n hX 35 rfl 1 xnd_MO_enter_34 rfl rfl ?_
    refine xf_aload_n hX 36 rfl 0 xnd_MO_enter_35 rfl rfl ?_
    refine xg_MO_key hX 39 rfl xk_MO_105 xnd_MO_enter_36 ?_
    refine xaM_iastore hX 40 rfl rfl hi xnd_MO_enter_39 ?_
    refine xf_aload_n hX 41 rfl 0 xnd_MO_enter_40 rfl rfl ?_
    refine xg_MO_values hX 44 rfl xk_MO_20 xnd_MO_enter_41 ?_
    refine xf_iload_n hX 45 rfl 1 xnd_MO_enter_44 rfl rfl ?_
    refine xf_aload_n hX 46 rfl 0 xnd_MO_enter_45 rfl rfl ?_
    refine xg_MO_put hX 49 rfl xk_MO_108 xnd_MO_enter_46 ?_
    refine xaM_iastore hX 50 rfl rfl hi xnd_MO_enter_49 ?_
    refine xf_aload_n hX 51 rfl 0 xnd_MO_enter_50 rfl rfl ?_
    refine xf_iload_n hX 52 rfl 1 xnd_MO_enter_51 rfl rfl ?_
    refine xf_V1v hX 55 rfl (xm_cstamp P _ _ _ hi) xq_MO_stamp xk_MO_126 xrM_MO rfl rfl xnd_MO_enter_52 ?_
    refine xf_aload_n hX 56 rfl 0 xnd_MO_enter_55 rfl rfl ?_
    refine xg_MO_bits hX 59 rfl xk_MO_29 xnd_MO_enter_56 ?_
    refine xf_iload_n hX 60 rfl 1 xnd_MO_enter_59 rfl rfl ?_
    refine xf_iconst hX 61 rfl (0) xnd_MO_enter_60 (by decide) ?_
    refine xaM_bastore hX 62 rfl rfl hi rfl xnd_MO_enter_61 ?_
    refine xf_aload_n hX 63 rfl 0 xnd_MO_enter_62 rfl rfl ?_
    refine xg_MO_held hX 66 rfl xk_MO_7 xnd_MO_enter_63 ?_
    refine xf_aload_n hX 67 rfl 0 xnd_MO_enter_66 rfl rfl ?_
    refine xg_MO_path hX 70 rfl xk_MO_39 xnd_MO_enter_67 ?_
    refine xf_iconst hX 71 rfl (0) xnd_MO_enter_70 (by decide) ?_
    refine xaM_iaload hX 72 rfl rfl (show vp_in _ 5 from vp_in_nI (n := 0) (by omega) (by omega)) xnd_MO_enter_71 ?_
    change xf_V X 72 _ (.int (τ.2 9 0) :: _) _
    refine xf_iload_n hX 73 rfl 1 xnd_MO_enter_72 rfl rfl ?_
    refine xf_iconst hX 74 rfl (1) xnd_MO_enter_73 (by decide) ?_
    refine xf_iadd hX 75 rfl xnd_MO_enter_74 ?_
    refine xaM_iastore hX 76 rfl rfl hp xnd_MO_enter_75 ?_
    refine xf_aload_n hX 77 rfl 0 xnd_MO_enter_76 rfl rfl ?_
    refine xf_iconst hX 78 rfl (1) xnd_MO_enter_77 (by decide) ?_
    refine xf_V1v hX 81 rfl (xm_cfin P _ _ _) xq_MO_finish xk_MO_130 xrM_MO rfl rfl xnd_MO_enter_78 ?_
    refine xf_vret hX hE xnd_MO_enter_81 ?_
    refine ⟨rfl, ?_⟩
    simp only [xm_enter, xm_en1, hRR, ek]
    rfl
  have loop : ∀ r i, r + i = 31 → xs_low (τ.2 2) r i = RR → xf_V X 2 [some (.ref (xw_a P 100)), some (.int (nI i))] [] (σ, τ) := by
    intro r
    induction r with
    | zero =>
      intro i hri hR
      refine xf_iload_n hX 3 rfl 1 xnd_MO_enter_2 rfl rfl ?_
      refine xf_bipush hX 5 rfl (31) xnd_MO_enter_3 (by decide) ?_
      refine xf_icmp_ge hX 8 rfl 23 xnd_MO_enter_5 (by decide) (fun _ => ?_) (fun h5 => absurd (show (31 : Int32) ≤ nI i from nI_le (a := 31) (by omega) (by omega)) h5)
      rw [show i = RR from hR]
      exact K
    | succ r ih =>
      intro i hri hR
      refine xf_iload_n hX 3 rfl 1 xnd_MO_enter_2 rfl rfl ?_
      refine xf_bipush hX 5 rfl (31) xnd_MO_enter_3 (by decide) ?_
      refine xf_icmp_ge hX 8 rfl 23 xnd_MO_enter_5 (by decide) (fun h5 => absurd h5 (show ¬ (31 : Int32) ≤ nI i from nI_ge (a := i) (b := 31) (by omega) (by omega))) (fun _ => ?_)
      refine xf_aload_n hX 9 rfl 0 xnd_MO_enter_8 rfl rfl ?_
      refine xg_MO_taken hX 12 rfl xk_MO_13 xnd_MO_enter_9 ?_
      refine xf_iload_n hX 13 rfl 1 xnd_MO_enter_12 rfl rfl ?_
      refine xaM_baload hX 14 rfl rfl (show vp_in _ 32 from vp_in_nI (by omega) (by omega)) xnd_MO_enter_13 ?_
      rw [nI_clamp (by omega)]
      refine xf_if_eq hX 17 rfl 23 xnd_MO_enter_14 (by decide) (fun h14 => ?_) (fun h14 => ?_)
      · rw [xs_low, if_pos h14] at hR
        rw [hR]
        exact K
      · refine xf_iinc hX 20 rfl (nI (i + 1)) xnd_MO_enter_17 rfl (by rw [nI_succ]; rfl) (by decide) ?_
        dsimp only [List.set]
        refine xf_goto hX 2 xnd_MO_enter_20 (by decide) ?_
        rw [xs_low, if_neg h14] at hR
        exact ih (i + 1) (by omega) hR
  refine xf_iconst hX 1 rfl (0) xnd_MO_enter_0 (by decide) ?_
  refine xf_istore_n hX 2 rfl 1 xnd_MO_enter_1 rfl (by decide) ?_
  dsimp only [List.set]
  exact loop 31 0 (by omega) hRR

/-- what a step of the reference's writer needs -/
def xm_okW (n w : Nat) (τ : xf_T) : Prop := xm_okP n w τ ∧ xm_okH n τ ∧ (τ.1 5 = 0 ∨ τ.1 5 = 1 ∨ τ.1 5 = 2 ∨ τ.1 5 = 3 ∨ τ.1 5 = 4) ∧ (τ.1 3 = 2 ∨ τ.1 3 = 3 → vp_in (τ.1 10) 32) ∧
  (τ.1 3 = 6 ∨ τ.1 3 = 7 → vp_in (τ.1 12) 5 ∧ (τ.1 3 = 6 → vp_in (τ.1 12 + 1) 5 ∧ vp_in (τ.2 9 (τ.1 12 + 1).toNatClampNeg) 32) ∧ vp_in (τ.2 9 (τ.1 12).toNatClampNeg) 32 ∧ vp_in (xm_mi τ) 32) ∧
  (¬ τ.1 3 = 1 → ¬ τ.1 3 = 2 → ¬ τ.1 3 = 3 → ¬ τ.1 3 = 4 → ¬ τ.1 3 = 5 → ¬ τ.1 3 = 6 → ¬ τ.1 3 = 7 → vp_in (τ.2 9 0) 32)
set_option maxRecDepth 100000 in
set_option maxHeartbeats 4000000 in
theorem xm_cone (P : xw_T) (σ τ : xf_T) (hW : xm_okW (xw_n P) (xw_w P) τ) : xf_F (xw_l P) xny_MO_one xnc_MO_one 1 none 7 157 (xw_W P) (xw_D P) (xw_ty P) [.ref (xw_a P 100)] (σ, τ) none (σ, xm_one (xw_n P) (xw_w P) τ) := by
  refine xf_start (own := xnR_MO) [some (.ref (xw_a P 100))] rfl (by decide) (Nat.le_of_ble_eq_true rfl) rfl (xf_cat rfl) ?_
  intro X hX hE
  refine xf_aload_n hX 1 rfl 0 xnd_MO_one_0 rfl rfl ?_
  refine xg_MO_next hX 4 rfl xk_MO_99 xnd_MO_one_1 ?_
  by_cases c4_1 : τ.1 3 = 1
  · rw [c4_1]
    refine xf_tabIn hX 48 xnd_MO_one_4 (by decide) (by decide) rfl (by decide) ?_
    refine xf_aload_n hX 49 rfl 0 xnd_MO_one_48 rfl rfl ?_
    refine xf_V0v hX 52 rfl (xm_cbegin P _ _ hW.1 hW.2.2.1) xq_MO_begin xk_MO_120 xrM_MO rfl rfl xnd_MO_one_49 ?_
    refine xf_goto hX 149 xnd_MO_one_52 (by decide) ?_
    refine xf_vret hX hE xnd_MO_one_149 ?_
    refine ⟨rfl, ?_⟩
    simp only [xm_one, eq_true c4_1, if_true, if_false]
    try rfl
  by_cases c4_2 : τ.1 3 = 2
  · rw [c4_2]
    refine xf_tabIn hX 55 xnd_MO_one_4 (by decide) (by decide) rfl (by decide) ?_
    refine xf_aload_n hX 56 rfl 0 xnd_MO_one_55 rfl rfl ?_
    refine xg_MO_versions hX 59 rfl xk_MO_32 xnd_MO_one_56 ?_
    refine xf_aload_n hX 60 rfl 0 xnd_MO_one_59 rfl rfl ?_
    refine xg_MO_key hX 63 rfl xk_MO_105 xnd_MO_one_60 ?_
    refine xf_S1i hX 66 rfl (xm_cstr P _ _ _) xq_MO_stripe xk_MO_84 rfl rfl xnd_MO_one_63 ?_
    refine xf_dup2 hX 67 rfl xnd_MO_one_66 rfl rfl ?_
    refine xaM_iaload hX 68 rfl rfl (xs_str_in _) xnd_MO_one_67 ?_
    refine xf_iconst hX 69 rfl (1) xnd_MO_one_68 (by decide) ?_
    refine xf_iadd hX 70 rfl xnd_MO_one_69 ?_
    refine xaM_iastore hX 71 rfl rfl (xs_str_in _) xnd_MO_one_70 ?_
    refine xf_aload_n hX 72 rfl 0 xnd_MO_one_71 rfl rfl ?_
    refine xg_MO_values hX 75 rfl xk_MO_20 xnd_MO_one_72 ?_
    refine xf_aload_n hX 76 rfl 0 xnd_MO_one_75 rfl rfl ?_
    refine xg_MO_target hX 79 rfl xk_MO_123 xnd_MO_one_76 ?_
    refine xf_aload_n hX 80 rfl 0 xnd_MO_one_79 rfl rfl ?_
    refine xg_MO_put hX 83 rfl xk_MO_108 xnd_MO_one_80 ?_
    refine xaM_iastore hX 84 rfl rfl (hW.2.2.2.1 (Or.inl c4_2)) xnd_MO_one_83 ?_
    refine xf_aload_n hX 85 rfl 0 xnd_MO_one_84 rfl rfl ?_
    refine xf_iconst hX 86 rfl (3) xnd_MO_one_85 (by decide) ?_
    refine xp_MO_next hX 89 rfl xk_MO_99 xnd_MO_one_86 ?_
    refine xf_goto hX 149 xnd_MO_one_89 (by decide) ?_
    refine xf_vret hX hE xnd_MO_one_149 ?_
    refine ⟨rfl, ?_⟩
    simp only [xm_one, c4_1, eq_true c4_2, if_true, if_false]
    try rfl
  by_cases c4_3 : τ.1 3 = 3
  · rw [c4_3]
    refine xf_tabIn hX 92 xnd_MO_one_4 (by decide) (by decide) rfl (by decide) ?_
    refine xf_aload_n hX 93 rfl 0 xnd_MO_one_92 rfl rfl ?_
    refine xf_aload_n hX 94 rfl 0 xnd_MO_one_93 rfl rfl ?_
    refine xg_MO_target hX 97 rfl xk_MO_123 xnd_MO_one_94 ?_
    refine xf_V1v hX 100 rfl (xm_cstamp P _ _ _ (hW.2.2.2.1 (Or.inr c4_3))) xq_MO_stamp xk_MO_126 xrM_MO rfl rfl xnd_MO_one_97 ?_
    refine xf_aload_n hX 101 rfl 0 xnd_MO_one_100 rfl rfl ?_
    refine xg_MO_versions hX 104 rfl xk_MO_32 xnd_MO_one_101 ?_
    refine xf_aload_n hX 105 rfl 0 xnd_MO_one_104 rfl rfl ?_
    refine xg_MO_key hX 108 rfl xk_MO_105 xnd_MO_one_105 ?_
    refine xf_S1i hX 111 rfl (xm_cstr P _ _ _) xq_MO_stripe xk_MO_84 rfl rfl xnd_MO_one_108 ?_
    refine xf_dup2 hX 112 rfl xnd_MO_one_111 rfl rfl ?_
    refine xaM_iaload hX 113 rfl rfl (xs_str_in _) xnd_MO_one_112 ?_
    refine xf_iconst hX 114 rfl (1) xnd_MO_one_113 (by decide) ?_
    refine xf_iadd hX 115 rfl xnd_MO_one_114 ?_
    refine xaM_iastore hX 116 rfl rfl (xs_str_in _) xnd_MO_one_115 ?_
    refine xf_aload_n hX 117 rfl 0 xnd_MO_one_116 rfl rfl ?_
    refine xf_iconst hX 118 rfl (1) xnd_MO_one_117 (by decide) ?_
    refine xf_V1v hX 121 rfl (xm_cfin P _ _ _) xq_MO_finish xk_MO_130 xrM_MO rfl rfl xnd_MO_one_118 ?_
    refine xf_goto hX 149 xnd_MO_one_121 (by decide) ?_
    refine xf_vret hX hE xnd_MO_one_149 ?_
    refine ⟨rfl, ?_⟩
    simp only [xm_one, c4_1, c4_2, eq_true c4_3, if_true, if_false]
    try rfl
  by_cases c4_4 : τ.1 3 = 4
  · rw [c4_4]
    refine xf_tabIn hX 124 xnd_MO_one_4 (by decide) (by decide) rfl (by decide) ?_
    refine xf_aload_n hX 125 rfl 0 xnd_MO_one_124 rfl rfl ?_
    refine xf_V0v hX 128 rfl (xm_cevict P _ _ hW.1 hW.2.1) xq_MO_evict xk_MO_133 xrM_MO rfl rfl xnd_MO_one_125 ?_
    refine xf_goto hX 149 xnd_MO_one_128 (by decide) ?_
    refine xf_vret hX hE xnd_MO_one_149 ?_
    refine ⟨rfl, ?_⟩
    simp only [xm_one, c4_1, c4_2, c4_3, eq_true c4_4, if_true, if_false]
    try rfl
  by_cases c4_5 : τ.1 3 = 5
  · rw [c4_5]
    refine xf_tabIn hX 131 xnd_MO_one_4 (by decide) (by decide) rfl (by decide) ?_
    refine xf_aload_n hX 132 rfl 0 xnd_MO_one_131 rfl rfl ?_
    refine xf_V0v hX 135 rfl (xm_cseek P _ _ hW.1) xq_MO_seek xk_MO_136 xrM_MO rfl rfl xnd_MO_one_132 ?_
    refine xf_goto hX 149 xnd_MO_one_135 (by decide) ?_
    refine xf_vret hX hE xnd_MO_one_149 ?_
    refine ⟨rfl, ?_⟩
    simp only [xm_one, c4_1, c4_2, c4_3, c4_4, eq_true c4_5, if_true, if_false]
    try rfl
  by_cases c4_6 : τ.1 3 = 6
  · rw [c4_6]
    refine xf_tabIn hX 138 xnd_MO_one_4 (by decide) (by decide) rfl (by decide) ?_
    have hmv : τ.1 3 = 6 ∨ τ.1 3 = 7 := Or.inl c4_6
    refine xf_aload_n hX 139 rfl 0 xnd_MO_one_138 rfl rfl ?_
    refine xf_V0v hX 142 rfl (xm_cmove P _ _ (hW.2.2.2.2.1 hmv).1 (hW.2.2.2.2.1 hmv).2.1 (hW.2.2.2.2.1 hmv).2.2.1 (hW.2.2.2.2.1 hmv).2.2.2) xq_MO_move xk_MO_139 xrM_MO rfl rfl xnd_MO_one_139 ?_
    refine xf_goto hX 149 xnd_MO_one_142 (by decide) ?_
    refine xf_vret hX hE xnd_MO_one_149 ?_
    refine ⟨rfl, ?_⟩
    simp only [xm_one, c4_1, c4_2, c4_3, c4_4, c4_5, eq_true c4_6, if_true, if_false]
    try rfl
  by_cases c4_7 : τ.1 3 = 7
  · rw [c4_7]
    refine xf_tabIn hX 138 xnd_MO_one_4 (by decide) (by decide) rfl (by decide) ?_
    have hmv : τ.1 3 = 6 ∨ τ.1 3 = 7 := Or.inr c4_7
    refine xf_aload_n hX 139 rfl 0 xnd_MO_one_138 rfl rfl ?_
    refine xf_V0v hX 142 rfl (xm_cmove P _ _ (hW.2.2.2.2.1 hmv).1 (hW.2.2.2.2.1 hmv).2.1 (hW.2.2.2.2.1 hmv).2.2.1 (hW.2.2.2.2.1 hmv).2.2.2) xq_MO_move xk_MO_139 xrM_MO rfl rfl xnd_MO_one_139 ?_
    refine xf_goto hX 149 xnd_MO_one_142 (by decide) ?_
    refine xf_vret hX hE xnd_MO_one_149 ?_
    refine ⟨rfl, ?_⟩
    simp only [xm_one, c4_1, c4_2, c4_3, c4_4, c4_5, c4_6, eq_true c4_7, if_true, if_false]
    try rfl
  have n0 := lv_neT c4_1 (by decide : ((1 : Int32)).toInt = 1)
  have n1 := lv_neT c4_2 (by decide : ((2 : Int32)).toInt = 2)
  have n2 := lv_neT c4_3 (by decide : ((3 : Int32)).toInt = 3)
  have n3 := lv_neT c4_4 (by decide : ((4 : Int32)).toInt = 4)
  have n4 := lv_neT c4_5 (by decide : ((5 : Int32)).toInt = 5)
  have n5 := lv_neT c4_6 (by decide : ((6 : Int32)).toInt = 6)
  have n6 := lv_neT c4_7 (by decide : ((7 : Int32)).toInt = 7)
  refine xf_tabOut hX 145 xnd_MO_one_4 (by omega) (by decide) ?_
  refine xf_aload_n hX 146 rfl 0 xnd_MO_one_145 rfl rfl ?_
  refine xf_V0v hX 149 rfl (xm_center P _ _ (hW.2.2.2.2.2 c4_1 c4_2 c4_3 c4_4 c4_5 c4_6 c4_7)) xq_MO_enter xk_MO_142 xrM_MO rfl rfl xnd_MO_one_146 ?_
  refine xf_vret hX hE xnd_MO_one_149 ?_
  refine ⟨rfl, ?_⟩
  simp only [xm_one, c4_1, c4_2, c4_3, c4_4, c4_5, c4_6, c4_7, if_true, if_false]
  try rfl

def xm_wk (n w : Nat) (τ : xf_T) (k : Int32) : xf_T × Int32 := if k < 1 then (τ, 0) else if k ≤ 50 then xm_work n w k.toNatClampNeg τ 0 else (τ, 0)
set_option maxRecDepth 100000 in
set_option maxHeartbeats 4000000 in
theorem xm_cwork (P : xw_T) (σ τ : xf_T) (kk : Int32) (I : xf_T → Prop) (h0 : I τ) (hs : ∀ s, I s → ¬ s.1 3 ≤ 0 → xm_okW (xw_n P) (xw_w P) s ∧ I (xm_one (xw_n P) (xw_w P) s)) : xf_F (xw_l P) xny_MO_work xnc_MO_work 3 (some .int) 8 177 (xw_W P) (xw_D P) (xw_ty P) [.ref (xw_a P 100), .int kk] (σ, τ) (some (.int ((xm_wk (xw_n P) (xw_w P) τ kk).2))) (σ, (xm_wk (xw_n P) (xw_w P) τ kk).1) := by
  refine xf_start (own := xnR_MO) [some (.ref (xw_a P 100)), some (.int kk), none] rfl (by decide) (Nat.le_of_ble_eq_true rfl) rfl (xf_cat rfl) ?_
  intro X hX hE
  have loop : ∀ {k RES}, k < 2 ^ 31 → xf_end X (some .int) (fun v u => v = some (.int RES.2) ∧ u = (σ, RES.1)) → ∀ r d s, r + d = k → I s → xm_work (xw_n P) (xw_w P) r s (nI d) = RES → xf_V X 15 [some (.ref (xw_a P 100)), some (.int (nI k)), some (.int (nI d))] [] (σ, s) := by
    intro k RES hk hE r
    induction r with
    | zero =>
      intro d s hd hIs hR
      refine xf_iload_n hX 16 rfl 2 xnd_MO_work_15 rfl rfl ?_
      refine xf_iload_n hX 17 rfl 1 xnd_MO_work_16 rfl rfl ?_
      refine xf_icmp_ge hX 20 rfl 37 xnd_MO_work_17 (by decide) (fun _ => ?_) (fun h17 => absurd (nI_le (by omega) (by omega)) h17)
      refine xf_iload_n hX 38 rfl 2 xnd_MO_work_37 rfl rfl ?_
      refine xf_iret hX hE xnd_MO_work_38 ?_
      rw [← hR]
      exact ⟨rfl, rfl⟩
    | succ r ih =>
      intro d s hd hIs hR
      by_cases hu : s.1 3 ≤ 0
      · refine xf_iload_n hX 16 rfl 2 xnd_MO_work_15 rfl rfl ?_
        refine xf_iload_n hX 17 rfl 1 xnd_MO_work_16 rfl rfl ?_
        refine xf_icmp_ge hX 20 rfl 37 xnd_MO_work_17 (by decide) (fun h17 => absurd h17 (nI_ge (by omega) (by omega))) (fun _ => ?_)
        refine xf_aload_n hX 21 rfl 0 xnd_MO_work_20 rfl rfl ?_
        refine xg_MO_next hX 24 rfl xk_MO_99 xnd_MO_work_21 ?_
        refine xf_if_le hX 27 rfl 37 xnd_MO_work_24 (by decide) (fun _ => ?_) (fun h24 => absurd hu h24)
        refine xf_iload_n hX 38 rfl 2 xnd_MO_work_37 rfl rfl ?_
        refine xf_iret hX hE xnd_MO_work_38 ?_
        rw [xm_work, if_pos hu] at hR
        rw [← hR]
        exact ⟨rfl, rfl⟩
      · refine xf_iload_n hX 16 rfl 2 xnd_MO_work_15 rfl rfl ?_
        refine xf_iload_n hX 17 rfl 1 xnd_MO_work_16 rfl rfl ?_
        refine xf_icmp_ge hX 20 rfl 37 xnd_MO_work_17 (by decide) (fun h17 => absurd h17 (nI_ge (by omega) (by omega))) (fun _ => ?_)
        refine xf_aload_n hX 21 rfl 0 xnd_MO_work_20 rfl rfl ?_
        refine xg_MO_next hX 24 rfl xk_MO_99 xnd_MO_work_21 ?_
        refine xf_if_le hX 27 rfl 37 xnd_MO_work_24 (by decide) (fun h24 => absurd h24 hu) (fun _ => ?_)
        refine xf_aload_n hX 28 rfl 0 xnd_MO_work_27 rfl rfl ?_
        refine xf_V0v hX 31 rfl (xm_cone P _ _ (hs s hIs hu).1) xq_MO_one xk_MO_117 xrM_MO rfl rfl xnd_MO_work_28 ?_
        refine xf_iinc hX 34 rfl (nI (d + 1)) xnd_MO_work_31 rfl (by rw [nI_succ]; rfl) (by decide) ?_
        dsimp only [List.set]
        refine xf_goto hX 15 xnd_MO_work_34 (by decide) ?_
        rw [xm_work, if_neg hu, nI_1] at hR
        exact ih (d + 1) _ (by omega) (hs s hIs hu).2 hR
  refine xf_iload_n hX 1 rfl 1 xnd_MO_work_0 rfl rfl ?_
  refine xf_iconst hX 2 rfl (1) xnd_MO_work_1 (by decide) ?_
  refine xf_icmp_lt hX 5 rfl 11 xnd_MO_work_2 (by decide) (fun h2 => ?_) (fun h2 => ?_)
  · have e9 : xm_wk (xw_n P) (xw_w P) τ kk = (τ, 0) := by unfold xm_wk; rw [if_pos h2]
    rw [e9] at hE
    refine xf_iconst hX 12 rfl (0) xnd_MO_work_11 (by decide) ?_
    refine xf_iret hX hE xnd_MO_work_12 ?_
    exact ⟨rfl, rfl⟩
  · refine xf_iload_n hX 6 rfl 1 xnd_MO_work_5 rfl rfl ?_
    refine xf_bipush hX 8 rfl (50) xnd_MO_work_6 (by decide) ?_
    refine xf_icmp_le hX 11 rfl 13 xnd_MO_work_8 (by decide) (fun h8 => ?_) (fun h8 => ?_)
    · refine xf_iconst hX 14 rfl (0) xnd_MO_work_13 (by decide) ?_
      refine xf_istore_n hX 15 rfl 2 xnd_MO_work_14 rfl (by decide) ?_
      dsimp only [List.set]
      have e9 : xm_wk (xw_n P) (xw_w P) τ kk = xm_work (xw_n P) (xw_w P) kk.toNatClampNeg τ 0 := by unfold xm_wk; rw [if_neg h2, if_pos h8]
      rw [e9] at hE
      obtain ⟨k, hk, rfl⟩ : ∃ k : Nat, k < 2 ^ 31 ∧ kk = nI k := by
        refine nI_of (fun h0 => h2 ?_)
        rw [Int32.lt_iff_toInt_lt] at h0 ⊢
        have : ((0 : Int32)).toInt = 0 := by decide
        have : ((1 : Int32)).toInt = 1 := by decide
        omega
      rw [nI_clamp hk] at hE
      exact loop hk hE k 0 τ (by omega) h0 rfl
    · have e9 : xm_wk (xw_n P) (xw_w P) τ kk = (τ, 0) := by unfold xm_wk; rw [if_neg h2, if_neg h8]
      rw [e9] at hE
      refine xf_iconst hX 12 rfl (0) xnd_MO_work_11 (by decide) ?_
      refine xf_iret hX hE xnd_MO_work_12 ?_
      exact ⟨rfl, rfl⟩

