/-! Contracts of the class: the writer's steps but the search. Laid by wip/gen/class4.py. -/
def xs_uw (σ : xf_T) : Int32 := if σ.1 9 = 0 then 1 else 0
theorem xs_uw_z (σ : xf_T) : narrow .boolean (.int (xs_uw σ)) = .int (xs_uw σ) := by
  unfold xs_uw
  split <;> rfl
set_option maxRecDepth 100000 in
set_option maxHeartbeats 4000000 in
theorem xc_uw (P : xw_T) (σ τ : xf_T) : xf_F (xw_l P) xny_WR_isUnderWay xnc_WR_isUnderWay 1 (some .boolean) 0 0 (xw_W P) (xw_D P) (xw_ty P) [.ref (xw_a P 3)] (σ, τ) (some (.int (xs_uw σ))) (σ, τ) := by
  refine xf_start (own := xnR_WR) [some (.ref (xw_a P 3))] rfl (by decide) (Nat.le_of_ble_eq_true rfl) rfl (xf_cat rfl) ?_
  intro X hX hE
  refine xf_aload_n hX 1 rfl 0 xnd_WR_isUnderWay_0 rfl rfl ?_
  refine xg_WR_outcome hX 4 rfl xk_WR_28 xnd_WR_isUnderWay_1 ?_
  refine xf_if_ne hX 7 rfl 11 xnd_WR_isUnderWay_4 (by decide) (fun h4 => ?_) (fun h4 => ?_)
  · refine xf_iconst hX 12 rfl (0) xnd_WR_isUnderWay_11 (by decide) ?_
    refine xf_zret hX hE xnd_WR_isUnderWay_12 rfl ?_
    refine ⟨?_, rfl⟩
    simp only [xs_uw, h4, if_true, if_false]
  · refine xf_iconst hX 8 rfl (1) xnd_WR_isUnderWay_7 (by decide) ?_
    refine xf_goto hX 12 xnd_WR_isUnderWay_8 (by decide) ?_
    refine xf_zret hX hE xnd_WR_isUnderWay_12 rfl ?_
    refine ⟨?_, rfl⟩
    simp only [xs_uw, eq_true h4, if_true, if_false]

set_option maxRecDepth 100000 in
set_option maxHeartbeats 4000000 in
theorem xc_wbegin (P : xw_T) (σ τ : xf_T) (kind key nv life kt : Int32) : xf_F (xw_l P) xny_WR_begin xnc_WR_begin 6 none 0 0 (xw_W P) (xw_D P) (xw_ty P) [.ref (xw_a P 3), .int kind, .int key, .int nv, .int life, .int kt] (σ, τ) none (xs_begin σ kind key nv life kt, τ) := by
  refine xf_start (own := xnR_WR) [some (.ref (xw_a P 3)), some (.int kind), some (.int key), some (.int nv), some (.int life), some (.int kt)] rfl (by decide) (Nat.le_of_ble_eq_true rfl) rfl (xf_cat rfl) ?_
  intro X hX hE
  refine xf_aload_n hX 1 rfl 0 xnd_WR_begin_0 rfl rfl ?_
  refine xf_iload_n hX 2 rfl 1 xnd_WR_begin_1 rfl rfl ?_
  refine xp_WR_kind hX 5 rfl xk_WR_32 xnd_WR_begin_2 ?_
  refine xf_aload_n hX 6 rfl 0 xnd_WR_begin_5 rfl rfl ?_
  refine xf_iload_n hX 7 rfl 2 xnd_WR_begin_6 rfl rfl ?_
  refine xp_WR_key hX 10 rfl xk_WR_35 xnd_WR_begin_7 ?_
  refine xf_aload_n hX 11 rfl 0 xnd_WR_begin_10 rfl rfl ?_
  refine xf_iload_n hX 12 rfl 3 xnd_WR_begin_11 rfl rfl ?_
  refine xp_WR_newValue hX 15 rfl xk_WR_38 xnd_WR_begin_12 ?_
  refine xf_aload_n hX 16 rfl 0 xnd_WR_begin_15 rfl rfl ?_
  refine xf_iload hX 18 rfl xnd_WR_begin_16 rfl ?_
  refine xp_WR_life hX 21 rfl xk_WR_41 xnd_WR_begin_18 ?_
  refine xf_aload_n hX 22 rfl 0 xnd_WR_begin_21 rfl rfl ?_
  refine xf_iload hX 24 rfl xnd_WR_begin_22 rfl ?_
  refine xp_WR_knownToken hX 27 rfl xk_WR_44 xnd_WR_begin_24 ?_
  refine xf_aload_n hX 28 rfl 0 xnd_WR_begin_27 rfl rfl ?_
  refine xf_iconst hX 29 rfl (0) xnd_WR_begin_28 (by decide) ?_
  refine xp_WR_outcome hX 32 rfl xk_WR_28 xnd_WR_begin_29 ?_
  refine xf_aload_n hX 33 rfl 0 xnd_WR_begin_32 rfl rfl ?_
  refine xf_iconst hX 34 rfl (0) xnd_WR_begin_33 (by decide) ?_
  refine xp_WR_next hX 37 rfl xk_WR_47 xnd_WR_begin_34 ?_
  refine xf_vret hX hE xnd_WR_begin_37 ?_
  exact ⟨rfl, rfl⟩

set_option maxRecDepth 100000 in
set_option maxHeartbeats 4000000 in
theorem xc_whenF (P : xw_T) (σ τ : xf_T) (f : Int32) (ho : xs_okP (xw_n P) (xw_w P) σ) (hf : vp_in f (xw_n P)) : xf_F (xw_l P) xny_WR_chooseWhenFound xnc_WR_chooseWhenFound 2 none 4 84 (xw_W P) (xw_D P) (xw_ty P) [.ref (xw_a P 3), .int f] (σ, τ) none (xs_whenF (xw_w P) σ f, τ) := by
  refine xf_start (own := xnR_WR) [some (.ref (xw_a P 3)), some (.int f)] rfl (by decide) (Nat.le_of_ble_eq_true rfl) rfl (xf_cat rfl) ?_
  intro X hX hE
  refine xf_aload_n hX 1 rfl 0 xnd_WR_chooseWhenFound_0 rfl rfl ?_
  refine xg_WR_kind hX 4 rfl xk_WR_32 xnd_WR_chooseWhenFound_1 ?_
  refine xf_iconst hX 5 rfl (1) xnd_WR_chooseWhenFound_4 (by decide) ?_
  refine xf_icmp_ne hX 8 rfl 16 xnd_WR_chooseWhenFound_5 (by decide) (fun h5 => ?_) (fun h5 => ?_)
  · refine xf_aload_n hX 17 rfl 0 xnd_WR_chooseWhenFound_16 rfl rfl ?_
    refine xg_WR_kind hX 20 rfl xk_WR_32 xnd_WR_chooseWhenFound_17 ?_
    refine xf_iconst hX 21 rfl (4) xnd_WR_chooseWhenFound_20 (by decide) ?_
    refine xf_icmp_ne hX 24 rfl 40 xnd_WR_chooseWhenFound_21 (by decide) (fun h21 => ?_) (fun h21 => ?_)
    · refine xf_aload_n hX 41 rfl 0 xnd_WR_chooseWhenFound_40 rfl rfl ?_
      refine xg_WR_kind hX 44 rfl xk_WR_32 xnd_WR_chooseWhenFound_41 ?_
      refine xf_iconst hX 45 rfl (3) xnd_WR_chooseWhenFound_44 (by decide) ?_
      refine xf_icmp_ne hX 48 rfl 72 xnd_WR_chooseWhenFound_45 (by decide) (fun h45 => ?_) (fun h45 => ?_)
      · refine xf_aload_n hX 73 rfl 0 xnd_WR_chooseWhenFound_72 rfl rfl ?_
        refine xf_iload_n hX 74 rfl 1 xnd_WR_chooseWhenFound_73 rfl rfl ?_
        refine xp_WR_changed hX 77 rfl xk_WR_109 xnd_WR_chooseWhenFound_74 ?_
        refine xf_aload_n hX 78 rfl 0 xnd_WR_chooseWhenFound_77 rfl rfl ?_
        refine xf_iconst hX 79 rfl (1) xnd_WR_chooseWhenFound_78 (by decide) ?_
        refine xp_WR_next hX 82 rfl xk_WR_47 xnd_WR_chooseWhenFound_79 ?_
        refine xf_vret hX hE xnd_WR_chooseWhenFound_82 ?_
        refine ⟨rfl, ?_⟩
        simp only [xs_whenF, h5, h21, h45, if_true, if_false]
      · refine xf_aload_n hX 49 rfl 0 xnd_WR_chooseWhenFound_48 rfl rfl ?_
        refine xg_WR_store hX 52 rfl xk_WR_9 xnd_WR_chooseWhenFound_49 ?_
        refine xg_ST_tokens hX 55 rfl xk_WR_106 xnd_WR_chooseWhenFound_52 ?_
        refine xf_iload_n hX 56 rfl 1 xnd_WR_chooseWhenFound_55 rfl rfl ?_
        refine xaX_iaload hX 57 rfl rfl hf xnd_WR_chooseWhenFound_56 ?_
        refine xf_aload_n hX 58 rfl 0 xnd_WR_chooseWhenFound_57 rfl rfl ?_
        refine xg_WR_knownToken hX 61 rfl xk_WR_44 xnd_WR_chooseWhenFound_58 ?_
        refine xf_icmp_eq hX 64 rfl 72 xnd_WR_chooseWhenFound_61 (by decide) (fun h61 => ?_) (fun h61 => ?_)
        · refine xf_aload_n hX 73 rfl 0 xnd_WR_chooseWhenFound_72 rfl rfl ?_
          refine xf_iload_n hX 74 rfl 1 xnd_WR_chooseWhenFound_73 rfl rfl ?_
          refine xp_WR_changed hX 77 rfl xk_WR_109 xnd_WR_chooseWhenFound_74 ?_
          refine xf_aload_n hX 78 rfl 0 xnd_WR_chooseWhenFound_77 rfl rfl ?_
          refine xf_iconst hX 79 rfl (1) xnd_WR_chooseWhenFound_78 (by decide) ?_
          refine xp_WR_next hX 82 rfl xk_WR_47 xnd_WR_chooseWhenFound_79 ?_
          refine xf_vret hX hE xnd_WR_chooseWhenFound_82 ?_
          refine ⟨rfl, ?_⟩
          simp only [xs_whenF, h5, h21, eq_true h45, eq_true h61, if_true, if_false]
        · refine xf_aload_n hX 65 rfl 0 xnd_WR_chooseWhenFound_64 rfl rfl ?_
          refine xf_iconst hX 66 rfl (3) xnd_WR_chooseWhenFound_65 (by decide) ?_
          refine xp_WR_outcome hX 69 rfl xk_WR_28 xnd_WR_chooseWhenFound_66 ?_
          refine xf_goto hX 82 xnd_WR_chooseWhenFound_69 (by decide) ?_
          refine xf_vret hX hE xnd_WR_chooseWhenFound_82 ?_
          refine ⟨rfl, ?_⟩
          simp only [xs_whenF, h5, h21, eq_true h45, h61, if_true, if_false]
    · refine xf_aload_n hX 25 rfl 0 xnd_WR_chooseWhenFound_24 rfl rfl ?_
      refine xg_WR_store hX 28 rfl xk_WR_9 xnd_WR_chooseWhenFound_25 ?_
      refine xf_iload_n hX 29 rfl 1 xnd_WR_chooseWhenFound_28 rfl rfl ?_
      refine xf_V1v hX 32 rfl (xc_remove P _ _ _ ho hf) xq_ST_remove xk_WR_91 xrX_ST rfl rfl xnd_WR_chooseWhenFound_29 ?_
      refine xf_aload_n hX 33 rfl 0 xnd_WR_chooseWhenFound_32 rfl rfl ?_
      refine xf_iconst hX 34 rfl (5) xnd_WR_chooseWhenFound_33 (by decide) ?_
      refine xp_WR_outcome hX 37 rfl xk_WR_28 xnd_WR_chooseWhenFound_34 ?_
      refine xf_goto hX 82 xnd_WR_chooseWhenFound_37 (by decide) ?_
      refine xf_vret hX hE xnd_WR_chooseWhenFound_82 ?_
      refine ⟨rfl, ?_⟩
      simp only [xs_whenF, h5, eq_true h21, if_true, if_false]
  · refine xf_aload_n hX 9 rfl 0 xnd_WR_chooseWhenFound_8 rfl rfl ?_
    refine xf_iconst hX 10 rfl (2) xnd_WR_chooseWhenFound_9 (by decide) ?_
    refine xp_WR_outcome hX 13 rfl xk_WR_28 xnd_WR_chooseWhenFound_10 ?_
    refine xf_goto hX 82 xnd_WR_chooseWhenFound_13 (by decide) ?_
    refine xf_vret hX hE xnd_WR_chooseWhenFound_82 ?_
    refine ⟨rfl, ?_⟩
    simp only [xs_whenF, eq_true h5, if_true, if_false]

set_option maxRecDepth 100000 in
set_option maxHeartbeats 4000000 in
theorem xc_whenN (P : xw_T) (σ τ : xf_T) : xf_F (xw_l P) xny_WR_chooseWhenNotFound xnc_WR_chooseWhenNotFound 1 none 1 20 (xw_W P) (xw_D P) (xw_ty P) [.ref (xw_a P 3)] (σ, τ) none (xs_whenN (xw_n P) σ, τ) := by
  refine xf_start (own := xnR_WR) [some (.ref (xw_a P 3))] rfl (by decide) (Nat.le_of_ble_eq_true rfl) rfl (xf_cat rfl) ?_
  intro X hX hE
  refine xf_aload_n hX 1 rfl 0 xnd_WR_chooseWhenNotFound_0 rfl rfl ?_
  refine xg_WR_kind hX 4 rfl xk_WR_32 xnd_WR_chooseWhenNotFound_1 ?_
  refine xf_iconst hX 5 rfl (2) xnd_WR_chooseWhenNotFound_4 (by decide) ?_
  refine xf_icmp_ne hX 8 rfl 16 xnd_WR_chooseWhenNotFound_5 (by decide) (fun h5 => ?_) (fun h5 => ?_)
  · refine xf_aload_n hX 17 rfl 0 xnd_WR_chooseWhenNotFound_16 rfl rfl ?_
    refine xg_WR_kind hX 20 rfl xk_WR_32 xnd_WR_chooseWhenNotFound_17 ?_
    refine xf_iconst hX 21 rfl (3) xnd_WR_chooseWhenNotFound_20 (by decide) ?_
    refine xf_icmp_eq hX 24 rfl 32 xnd_WR_chooseWhenNotFound_21 (by decide) (fun h21 => ?_) (fun h21 => ?_)
    · refine xf_aload_n hX 33 rfl 0 xnd_WR_chooseWhenNotFound_32 rfl rfl ?_
      refine xf_iconst hX 34 rfl (4) xnd_WR_chooseWhenNotFound_33 (by decide) ?_
      refine xp_WR_outcome hX 37 rfl xk_WR_28 xnd_WR_chooseWhenNotFound_34 ?_
      refine xf_goto hX 59 xnd_WR_chooseWhenNotFound_37 (by decide) ?_
      refine xf_vret hX hE xnd_WR_chooseWhenNotFound_59 ?_
      refine ⟨rfl, ?_⟩
      simp only [xs_whenN, h5, eq_true h21, if_true, if_false]
    · refine xf_aload_n hX 25 rfl 0 xnd_WR_chooseWhenNotFound_24 rfl rfl ?_
      refine xg_WR_kind hX 28 rfl xk_WR_32 xnd_WR_chooseWhenNotFound_25 ?_
      refine xf_iconst hX 29 rfl (4) xnd_WR_chooseWhenNotFound_28 (by decide) ?_
      refine xf_icmp_ne hX 32 rfl 40 xnd_WR_chooseWhenNotFound_29 (by decide) (fun h29 => ?_) (fun h29 => ?_)
      · refine xf_aload_n hX 41 rfl 0 xnd_WR_chooseWhenNotFound_40 rfl rfl ?_
        refine xf_aload_n hX 42 rfl 0 xnd_WR_chooseWhenNotFound_41 rfl rfl ?_
        refine xg_WR_store hX 45 rfl xk_WR_9 xnd_WR_chooseWhenNotFound_42 ?_
        refine xf_V0i hX 48 rfl (xc_isFull P _ _) xq_ST_isFull xk_WR_112 xrX_ST rfl rfl xnd_WR_chooseWhenNotFound_45 ?_
        refine xf_if_eq hX 51 rfl 55 xnd_WR_chooseWhenNotFound_48 (by decide) (fun h48 => ?_) (fun h48 => ?_)
        · refine xf_iconst hX 56 rfl (4) xnd_WR_chooseWhenNotFound_55 (by decide) ?_
          refine xp_WR_next hX 59 rfl xk_WR_47 xnd_WR_chooseWhenNotFound_56 ?_
          refine xf_vret hX hE xnd_WR_chooseWhenNotFound_59 ?_
          refine ⟨rfl, ?_⟩
          simp only [xs_whenN, h5, h21, h29, eq_true h48, if_true, if_false]
        · refine xf_iconst hX 52 rfl (3) xnd_WR_chooseWhenNotFound_51 (by decide) ?_
          refine xf_goto hX 56 xnd_WR_chooseWhenNotFound_52 (by decide) ?_
          refine xp_WR_next hX 59 rfl xk_WR_47 xnd_WR_chooseWhenNotFound_56 ?_
          refine xf_vret hX hE xnd_WR_chooseWhenNotFound_59 ?_
          refine ⟨rfl, ?_⟩
          simp only [xs_whenN, h5, h21, h29, h48, if_true, if_false]
      · refine xf_aload_n hX 33 rfl 0 xnd_WR_chooseWhenNotFound_32 rfl rfl ?_
        refine xf_iconst hX 34 rfl (4) xnd_WR_chooseWhenNotFound_33 (by decide) ?_
        refine xp_WR_outcome hX 37 rfl xk_WR_28 xnd_WR_chooseWhenNotFound_34 ?_
        refine xf_goto hX 59 xnd_WR_chooseWhenNotFound_37 (by decide) ?_
        refine xf_vret hX hE xnd_WR_chooseWhenNotFound_59 ?_
        refine ⟨rfl, ?_⟩
        simp only [xs_whenN, h5, h21, eq_true h29, if_true, if_false]
  · refine xf_aload_n hX 9 rfl 0 xnd_WR_chooseWhenNotFound_8 rfl rfl ?_
    refine xf_iconst hX 10 rfl (2) xnd_WR_chooseWhenNotFound_9 (by decide) ?_
    refine xp_WR_outcome hX 13 rfl xk_WR_28 xnd_WR_chooseWhenNotFound_10 ?_
    refine xf_goto hX 59 xnd_WR_chooseWhenNotFound_13 (by decide) ?_
    refine xf_vret hX hE xnd_WR_chooseWhenNotFound_59 ?_
    refine ⟨rfl, ?_⟩
    simp only [xs_whenN, eq_true h5, if_true, if_false]

set_option maxRecDepth 100000 in
set_option maxHeartbeats 4000000 in
theorem xc_chV (P : xw_T) (σ τ : xf_T) (hc : vp_in (σ.1 17) (xw_n P)) : xf_F (xw_l P) xny_WR_changeValue xnc_WR_changeValue 1 none 3 62 (xw_W P) (xw_D P) (xw_ty P) [.ref (xw_a P 3)] (σ, τ) none (xs_chV σ, τ) := by
  refine xf_start (own := xnR_WR) [some (.ref (xw_a P 3))] rfl (by decide) (Nat.le_of_ble_eq_true rfl) rfl (xf_cat rfl) ?_
  intro X hX hE
  refine xf_aload_n hX 1 rfl 0 xnd_WR_changeValue_0 rfl rfl ?_
  refine xg_WR_store hX 4 rfl xk_WR_9 xnd_WR_changeValue_1 ?_
  refine xf_aload_n hX 5 rfl 0 xnd_WR_changeValue_4 rfl rfl ?_
  refine xg_WR_key hX 8 rfl xk_WR_35 xnd_WR_changeValue_5 ?_
  refine xf_iconst hX 9 rfl (1) xnd_WR_changeValue_8 (by decide) ?_
  refine xf_V2v hX 12 rfl (xc_grow P _ _ _ _) xq_ST_growVersion xk_WR_116 xrX_ST rfl rfl xnd_WR_changeValue_9 ?_
  refine xf_aload_n hX 13 rfl 0 xnd_WR_changeValue_12 rfl rfl ?_
  refine xg_WR_store hX 16 rfl xk_WR_9 xnd_WR_changeValue_13 ?_
  refine xg_ST_values hX 19 rfl xk_WR_120 xnd_WR_changeValue_16 ?_
  refine xf_aload_n hX 20 rfl 0 xnd_WR_changeValue_19 rfl rfl ?_
  refine xg_WR_changed hX 23 rfl xk_WR_109 xnd_WR_changeValue_20 ?_
  refine xf_aload_n hX 24 rfl 0 xnd_WR_changeValue_23 rfl rfl ?_
  refine xg_WR_newValue hX 27 rfl xk_WR_38 xnd_WR_changeValue_24 ?_
  refine xaX_iastore hX 28 rfl rfl hc xnd_WR_changeValue_27 ?_
  refine xf_aload_n hX 29 rfl 0 xnd_WR_changeValue_28 rfl rfl ?_
  refine xf_iconst hX 30 rfl (2) xnd_WR_changeValue_29 (by decide) ?_
  refine xp_WR_next hX 33 rfl xk_WR_47 xnd_WR_changeValue_30 ?_
  refine xf_vret hX hE xnd_WR_changeValue_33 ?_
  exact ⟨rfl, rfl⟩

set_option maxRecDepth 100000 in
set_option maxHeartbeats 4000000 in
theorem xc_chT (P : xw_T) (σ τ : xf_T) (hc : vp_in (σ.1 17) (xw_n P)) : xf_F (xw_l P) xny_WR_changeToken xnc_WR_changeToken 1 none 3 62 (xw_W P) (xw_D P) (xw_ty P) [.ref (xw_a P 3)] (σ, τ) none (xs_chT σ, τ) := by
  refine xf_start (own := xnR_WR) [some (.ref (xw_a P 3))] rfl (by decide) (Nat.le_of_ble_eq_true rfl) rfl (xf_cat rfl) ?_
  intro X hX hE
  refine xf_aload_n hX 1 rfl 0 xnd_WR_changeToken_0 rfl rfl ?_
  refine xg_WR_store hX 4 rfl xk_WR_9 xnd_WR_changeToken_1 ?_
  refine xf_aload_n hX 5 rfl 0 xnd_WR_changeToken_4 rfl rfl ?_
  refine xg_WR_changed hX 8 rfl xk_WR_109 xnd_WR_changeToken_5 ?_
  refine xf_aload_n hX 9 rfl 0 xnd_WR_changeToken_8 rfl rfl ?_
  refine xg_WR_life hX 12 rfl xk_WR_41 xnd_WR_changeToken_9 ?_
  refine xf_V2v hX 15 rfl (xc_renew P _ _ _ _ hc) xq_ST_renew xk_WR_123 xrX_ST rfl rfl xnd_WR_changeToken_12 ?_
  refine xf_aload_n hX 16 rfl 0 xnd_WR_changeToken_15 rfl rfl ?_
  refine xg_WR_store hX 19 rfl xk_WR_9 xnd_WR_changeToken_16 ?_
  refine xf_aload_n hX 20 rfl 0 xnd_WR_changeToken_19 rfl rfl ?_
  refine xg_WR_key hX 23 rfl xk_WR_35 xnd_WR_changeToken_20 ?_
  refine xf_iconst hX 24 rfl (1) xnd_WR_changeToken_23 (by decide) ?_
  refine xf_V2v hX 27 rfl (xc_grow P _ _ _ _) xq_ST_growVersion xk_WR_116 xrX_ST rfl rfl xnd_WR_changeToken_24 ?_
  refine xf_aload_n hX 28 rfl 0 xnd_WR_changeToken_27 rfl rfl ?_
  refine xf_iconst hX 29 rfl (1) xnd_WR_changeToken_28 (by decide) ?_
  refine xp_WR_outcome hX 32 rfl xk_WR_28 xnd_WR_changeToken_29 ?_
  refine xf_vret hX hE xnd_WR_changeToken_32 ?_
  exact ⟨rfl, rfl⟩

set_option maxRecDepth 100000 in
set_option maxHeartbeats 4000000 in
theorem xc_turn (P : xw_T) (σ τ : xf_T) : xf_F (xw_l P) xny_WR_turnHand xnc_WR_turnHand 1 none 0 0 (xw_W P) (xw_D P) (xw_ty P) [.ref (xw_a P 3)] (σ, τ) none (xs_turn (xw_n P) σ, τ) := by
  refine xf_start (own := xnR_WR) [some (.ref (xw_a P 3))] rfl (by decide) (Nat.le_of_ble_eq_true rfl) rfl (xf_cat rfl) ?_
  intro X hX hE
  refine xf_aload_n hX 1 rfl 0 xnd_WR_turnHand_0 rfl rfl ?_
  refine xf_aload_n hX 2 rfl 0 xnd_WR_turnHand_1 rfl rfl ?_
  refine xg_WR_hand hX 5 rfl xk_WR_133 xnd_WR_turnHand_2 ?_
  refine xf_iconst hX 6 rfl (1) xnd_WR_turnHand_5 (by decide) ?_
  refine xf_iadd hX 7 rfl xnd_WR_turnHand_6 ?_
  refine xf_aload_n hX 8 rfl 0 xnd_WR_turnHand_7 rfl rfl ?_
  refine xg_WR_store hX 11 rfl xk_WR_9 xnd_WR_turnHand_8 ?_
  refine xg_ST_capacity hX 14 rfl xk_WR_126 xnd_WR_turnHand_11 ?_
  refine xf_icmp_ge hX 17 rfl 26 xnd_WR_turnHand_14 (by decide) (fun h14 => ?_) (fun h14 => ?_)
  · refine xf_iconst hX 27 rfl (0) xnd_WR_turnHand_26 (by decide) ?_
    refine xp_WR_hand hX 30 rfl xk_WR_133 xnd_WR_turnHand_27 ?_
    refine xf_vret hX hE xnd_WR_turnHand_30 ?_
    refine ⟨rfl, ?_⟩
    simp only [xs_turn, h14, if_true, if_false]
  · refine xf_aload_n hX 18 rfl 0 xnd_WR_turnHand_17 rfl rfl ?_
    refine xg_WR_hand hX 21 rfl xk_WR_133 xnd_WR_turnHand_18 ?_
    refine xf_iconst hX 22 rfl (1) xnd_WR_turnHand_21 (by decide) ?_
    refine xf_iadd hX 23 rfl xnd_WR_turnHand_22 ?_
    refine xf_goto hX 27 xnd_WR_turnHand_23 (by decide) ?_
    refine xp_WR_hand hX 30 rfl xk_WR_133 xnd_WR_turnHand_27 ?_
    refine xf_vret hX hE xnd_WR_turnHand_30 ?_
    refine ⟨rfl, ?_⟩
    simp only [xs_turn, h14, if_true, if_false]

set_option maxRecDepth 100000 in
set_option maxHeartbeats 4000000 in
theorem xc_chM (P : xw_T) (σ τ : xf_T) : xf_F (xw_l P) xny_WR_chooseMove xnc_WR_chooseMove 1 none 0 0 (xw_W P) (xw_D P) (xw_ty P) [.ref (xw_a P 3)] (σ, τ) none (xs_chM σ, τ) := by
  refine xf_start (own := xnR_WR) [some (.ref (xw_a P 3))] rfl (by decide) (Nat.le_of_ble_eq_true rfl) rfl (xf_cat rfl) ?_
  intro X hX hE
  refine xf_aload_n hX 1 rfl 0 xnd_WR_chooseMove_0 rfl rfl ?_
  refine xf_dup hX 2 rfl xnd_WR_chooseMove_1 rfl ?_
  refine xg_WR_moving hX 5 rfl xk_WR_148 xnd_WR_chooseMove_2 ?_
  refine xf_iconst hX 6 rfl (1) xnd_WR_chooseMove_5 (by decide) ?_
  refine xf_isub hX 7 rfl xnd_WR_chooseMove_6 ?_
  refine xp_WR_moving hX 10 rfl xk_WR_148 xnd_WR_chooseMove_7 ?_
  refine xf_aload_n hX 11 rfl 0 xnd_WR_chooseMove_10 rfl rfl ?_
  refine xf_aload_n hX 12 rfl 0 xnd_WR_chooseMove_11 rfl rfl ?_
  refine xg_WR_moving hX 15 rfl xk_WR_148 xnd_WR_chooseMove_12 ?_
  refine xf_if_lt hX 18 rfl 22 xnd_WR_chooseMove_15 (by decide) (fun h15 => ?_) (fun h15 => ?_)
  · refine xf_bipush hX 24 rfl (7) xnd_WR_chooseMove_22 (by decide) ?_
    refine xp_WR_next hX 27 rfl xk_WR_47 xnd_WR_chooseMove_24 ?_
    refine xf_vret hX hE xnd_WR_chooseMove_27 ?_
    refine ⟨rfl, ?_⟩
    have h9 : (xf_I σ 18 (σ.1 18 - 1)).1 18 = σ.1 18 - 1 := rfl
    rw [h9] at h15
    simp only [xs_chM, h15, if_true, if_false]
  · refine xf_iconst hX 19 rfl (5) xnd_WR_chooseMove_18 (by decide) ?_
    refine xf_goto hX 24 xnd_WR_chooseMove_19 (by decide) ?_
    refine xp_WR_next hX 27 rfl xk_WR_47 xnd_WR_chooseMove_24 ?_
    refine xf_vret hX hE xnd_WR_chooseMove_27 ?_
    refine ⟨rfl, ?_⟩
    have h9 : (xf_I σ 18 (σ.1 18 - 1)).1 18 = σ.1 18 - 1 := rfl
    rw [h9] at h15
    simp only [xs_chM, h15, if_true, if_false]

set_option maxRecDepth 100000 in
set_option maxHeartbeats 4000000 in
theorem xc_insK (P : xw_T) (σ τ : xf_T) (ho : xs_okP (xw_n P) (xw_w P) σ) (hp : vp_in (σ.2 14 0) (8 * (xw_w P))) : xf_F (xw_l P) xny_WR_insertKey xnc_WR_insertKey 1 none 2 47 (xw_W P) (xw_D P) (xw_ty P) [.ref (xw_a P 3)] (σ, τ) none (xs_insK (xw_n P) σ, τ) := by
  refine xf_start (own := xnR_WR) [some (.ref (xw_a P 3))] rfl (by decide) (Nat.le_of_ble_eq_true rfl) rfl (xf_cat rfl) ?_
  intro X hX hE
  refine xf_aload_n hX 1 rfl 0 xnd_WR_insertKey_0 rfl rfl ?_
  refine xg_WR_store hX 4 rfl xk_WR_9 xnd_WR_insertKey_1 ?_
  refine xf_aload_n hX 5 rfl 0 xnd_WR_insertKey_4 rfl rfl ?_
  refine xg_WR_path hX 8 rfl xk_WR_24 xnd_WR_insertKey_5 ?_
  refine xg_PA_stops hX 11 rfl xk_WR_154 xnd_WR_insertKey_8 ?_
  refine xf_iconst hX 12 rfl (0) xnd_WR_insertKey_11 (by decide) ?_
  refine xaX_iaload hX 13 rfl rfl (show vp_in _ 5 from vp_in_nI (n := 0) (by omega) (by omega)) xnd_WR_insertKey_12 ?_
  change xf_V X 13 _ (.int (σ.2 14 0) :: _) _
  refine xf_aload_n hX 14 rfl 0 xnd_WR_insertKey_13 rfl rfl ?_
  refine xg_WR_key hX 17 rfl xk_WR_35 xnd_WR_insertKey_14 ?_
  refine xf_aload_n hX 18 rfl 0 xnd_WR_insertKey_17 rfl rfl ?_
  refine xg_WR_newValue hX 21 rfl xk_WR_38 xnd_WR_insertKey_18 ?_
  refine xf_aload_n hX 22 rfl 0 xnd_WR_insertKey_21 rfl rfl ?_
  refine xg_WR_life hX 25 rfl xk_WR_41 xnd_WR_insertKey_22 ?_
  refine xf_V4v hX 28 rfl (xc_ins P _ _ _ _ _ _ ho hp) xq_ST_insert xk_WR_163 xrX_ST rfl rfl xnd_WR_insertKey_25 ?_
  refine xf_aload_n hX 29 rfl 0 xnd_WR_insertKey_28 rfl rfl ?_
  refine xf_iconst hX 30 rfl (1) xnd_WR_insertKey_29 (by decide) ?_
  refine xp_WR_outcome hX 33 rfl xk_WR_28 xnd_WR_insertKey_30 ?_
  refine xf_vret hX hE xnd_WR_insertKey_33 ?_
  exact ⟨rfl, rfl⟩

