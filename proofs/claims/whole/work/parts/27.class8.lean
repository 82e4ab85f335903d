/-! Contracts of the class: a step of the writer; the readers. Laid by wip/gen/class8.py. -/
/-- what a step of the writer needs -/
def xs_okW (n w : Nat) (σ : xf_T) : Prop := xs_okP n w σ ∧ xs_okH n σ ∧ (σ.1 16 = 1 ∨ σ.1 16 = 2 → vp_in (σ.1 17) n) ∧
  (σ.1 16 = 5 → vp_in (σ.1 18) 5 ∧ vp_in (σ.1 18 + 1) 5 ∧ vp_in (σ.2 14 (σ.1 18).toNatClampNeg) (8 * w) ∧ vp_in (σ.2 14 (σ.1 18 + 1).toNatClampNeg) (8 * w) ∧ vp_in (xs_mi σ) n) ∧
  (σ.1 16 = 6 → vp_in (σ.1 18) 5 ∧ vp_in (σ.2 14 (σ.1 18).toNatClampNeg) (8 * w) ∧ vp_in (xs_mi σ) n) ∧
  (¬ σ.1 16 = 0 → ¬ σ.1 16 = 1 → ¬ σ.1 16 = 2 → ¬ σ.1 16 = 3 → ¬ σ.1 16 = 4 → ¬ σ.1 16 = 5 → ¬ σ.1 16 = 6 → vp_in (σ.2 14 0) (8 * w))
theorem xs_okP.fIn {n w : Nat} {σ : xf_T} (h : xs_okP n w σ) {b : Int32} (hb : ∃ j, j < 8 ∧ b = nI j) (key : Int32) : xs_findIn w σ b key = -1 ∨ vp_in (xs_findIn w σ b key) (8 * w) := by
  obtain ⟨j, hj, rfl⟩ := hb
  have hw := h.2
  have h8 := xr_bkb (w := w) hj
  unfold xs_findIn
  rw [nI_clamp (by omega)]
  rcases xs_fi_is (σ.2 5) (σ.2 6) key w (w * j) with g | ⟨q, g1, g2, g3, -⟩
  · exact Or.inl g
  · exact Or.inr (xs_in g3 (by omega) (by omega))
set_option maxRecDepth 100000 in
set_option maxHeartbeats 4000000 in
theorem xc_goOn (P : xw_T) (σ τ : xf_T) (hW : xs_okW (xw_n P) (xw_w P) σ) : xf_F (xw_l P) xny_WR_goOn xnc_WR_goOn 1 none 6 127 (xw_W P) (xw_D P) (xw_ty P) [.ref (xw_a P 3)] (σ, τ) none (xs_goOn (xw_n P) (xw_w P) σ, τ) := by
  refine xf_start (own := xnR_WR) [some (.ref (xw_a P 3))] rfl (by decide) (Nat.le_of_ble_eq_true rfl) rfl (xf_cat rfl) ?_
  intro X hX hE
  refine xf_aload_n hX 1 rfl 0 xnd_WR_goOn_0 rfl rfl ?_
  refine xg_WR_next hX 4 rfl xk_WR_47 xnd_WR_goOn_1 ?_
  by_cases c4_0 : σ.1 16 = 0
  · rw [c4_0]
    refine xf_tabIn hX 48 xnd_WR_goOn_4 (by decide) (by decide) rfl (by decide) ?_
    refine xf_aload_n hX 49 rfl 0 xnd_WR_goOn_48 rfl rfl ?_
    refine xf_V0v hX 52 rfl (xc_luk P _ _ hW.1) xq_WR_lookUpKey xk_WR_50 xrX_WR rfl rfl xnd_WR_goOn_49 ?_
    refine xf_goto hX 101 xnd_WR_goOn_52 (by decide) ?_
    refine xf_vret hX hE xnd_WR_goOn_101 ?_
    refine ⟨rfl, ?_⟩
    simp only [xs_goOn, eq_true c4_0, if_true, if_false]
  by_cases c4_1 : σ.1 16 = 1
  · rw [c4_1]
    refine xf_tabIn hX 55 xnd_WR_goOn_4 (by decide) (by decide) rfl (by decide) ?_
    refine xf_aload_n hX 56 rfl 0 xnd_WR_goOn_55 rfl rfl ?_
    refine xf_V0v hX 59 rfl (xc_chV P _ _ (hW.2.2.1 (Or.inl c4_1))) xq_WR_changeValue xk_WR_53 xrX_WR rfl rfl xnd_WR_goOn_56 ?_
    refine xf_goto hX 101 xnd_WR_goOn_59 (by decide) ?_
    refine xf_vret hX hE xnd_WR_goOn_101 ?_
    refine ⟨rfl, ?_⟩
    simp only [xs_goOn, c4_0, eq_true c4_1, if_true, if_false]
  by_cases c4_2 : σ.1 16 = 2
  · rw [c4_2]
    refine xf_tabIn hX 62 xnd_WR_goOn_4 (by decide) (by decide) rfl (by decide) ?_
    refine xf_aload_n hX 63 rfl 0 xnd_WR_goOn_62 rfl rfl ?_
    refine xf_V0v hX 66 rfl (xc_chT P _ _ (hW.2.2.1 (Or.inr c4_2))) xq_WR_changeToken xk_WR_56 xrX_WR rfl rfl xnd_WR_goOn_63 ?_
    refine xf_goto hX 101 xnd_WR_goOn_66 (by decide) ?_
    refine xf_vret hX hE xnd_WR_goOn_101 ?_
    refine ⟨rfl, ?_⟩
    simp only [xs_goOn, c4_0, c4_1, eq_true c4_2, if_true, if_false]
  by_cases c4_3 : σ.1 16 = 3
  · rw [c4_3]
    refine xf_tabIn hX 69 xnd_WR_goOn_4 (by decide) (by decide) rfl (by decide) ?_
    refine xf_aload_n hX 70 rfl 0 xnd_WR_goOn_69 rfl rfl ?_
    refine xf_V0v hX 73 rfl (xc_evict P _ _ hW.1 hW.2.1) xq_WR_evict xk_WR_59 xrX_WR rfl rfl xnd_WR_goOn_70 ?_
    refine xf_goto hX 101 xnd_WR_goOn_73 (by decide) ?_
    refine xf_vret hX hE xnd_WR_goOn_101 ?_
    refine ⟨rfl, ?_⟩
    simp only [xs_goOn, c4_0, c4_1, c4_2, eq_true c4_3, if_true, if_false]
  by_cases c4_4 : σ.1 16 = 4
  · rw [c4_4]
    refine xf_tabIn hX 76 xnd_WR_goOn_4 (by decide) (by decide) rfl (by decide) ?_
    refine xf_aload_n hX 77 rfl 0 xnd_WR_goOn_76 rfl rfl ?_
    refine xf_V0v hX 80 rfl (xc_seekP P _ _ hW.1) xq_WR_seekPath xk_WR_62 xrX_WR rfl rfl xnd_WR_goOn_77 ?_
    refine xf_goto hX 101 xnd_WR_goOn_80 (by decide) ?_
    refine xf_vret hX hE xnd_WR_goOn_101 ?_
    refine ⟨rfl, ?_⟩
    simp only [xs_goOn, c4_0, c4_1, c4_2, c4_3, eq_true c4_4, if_true, if_false]
  by_cases c4_5 : σ.1 16 = 5
  · rw [c4_5]
    refine xf_tabIn hX 83 xnd_WR_goOn_4 (by decide) (by decide) rfl (by decide) ?_
    refine xf_aload_n hX 84 rfl 0 xnd_WR_goOn_83 rfl rfl ?_
    refine xf_V0v hX 87 rfl (xc_mvOn P _ _ (hW.2.2.2.1 c4_5).1 (hW.2.2.2.1 c4_5).2.1 (hW.2.2.2.1 c4_5).2.2.1 (hW.2.2.2.1 c4_5).2.2.2.1 (hW.2.2.2.1 c4_5).2.2.2.2) xq_WR_moveOn xk_WR_65 xrX_WR rfl rfl xnd_WR_goOn_84 ?_
    refine xf_goto hX 101 xnd_WR_goOn_87 (by decide) ?_
    refine xf_vret hX hE xnd_WR_goOn_101 ?_
    refine ⟨rfl, ?_⟩
    simp only [xs_goOn, c4_0, c4_1, c4_2, c4_3, c4_4, eq_true c4_5, if_true, if_false]
  by_cases c4_6 : σ.1 16 = 6
  · rw [c4_6]
    refine xf_tabIn hX 90 xnd_WR_goOn_4 (by decide) (by decide) rfl (by decide) ?_
    refine xf_aload_n hX 91 rfl 0 xnd_WR_goOn_90 rfl rfl ?_
    refine xf_V0v hX 94 rfl (xc_mvOff P _ _ (hW.2.2.2.2.1 c4_6).1 (hW.2.2.2.2.1 c4_6).2.1 (hW.2.2.2.2.1 c4_6).2.2) xq_WR_moveOff xk_WR_68 xrX_WR rfl rfl xnd_WR_goOn_91 ?_
    refine xf_goto hX 101 xnd_WR_goOn_94 (by decide) ?_
    refine xf_vret hX hE xnd_WR_goOn_101 ?_
    refine ⟨rfl, ?_⟩
    simp only [xs_goOn, c4_0, c4_1, c4_2, c4_3, c4_4, c4_5, eq_true c4_6, if_true, if_false]
  have n0 := lv_neT c4_0 (by decide : ((0 : Int32)).toInt = 0)
  have n1 := lv_neT c4_1 (by decide : ((1 : Int32)).toInt = 1)
  have n2 := lv_neT c4_2 (by decide : ((2 : Int32)).toInt = 2)
  have n3 := lv_neT c4_3 (by decide : ((3 : Int32)).toInt = 3)
  have n4 := lv_neT c4_4 (by decide : ((4 : Int32)).toInt = 4)
  have n5 := lv_neT c4_5 (by decide : ((5 : Int32)).toInt = 5)
  have n6 := lv_neT c4_6 (by decide : ((6 : Int32)).toInt = 6)
  refine xf_tabOut hX 97 xnd_WR_goOn_4 (by omega) (by decide) ?_
  refine xf_aload_n hX 98 rfl 0 xnd_WR_goOn_97 rfl rfl ?_
  refine xf_V0v hX 101 rfl (xc_insK P _ _ hW.1 (hW.2.2.2.2.2 c4_0 c4_1 c4_2 c4_3 c4_4 c4_5 c4_6)) xq_WR_insertKey xk_WR_71 xrX_WR rfl rfl xnd_WR_goOn_98 ?_
  refine xf_vret hX hE xnd_WR_goOn_101 ?_
  refine ⟨rfl, ?_⟩
  simp only [xs_goOn, c4_0, c4_1, c4_2, c4_3, c4_4, c4_5, c4_6, if_true, if_false]

set_option maxRecDepth 100000 in
set_option maxHeartbeats 4000000 in
theorem xc_ruw (P : xw_T) (σ τ : xf_T) (r : Nat) (hr : r < 3) : xf_F (xw_l P) xny_RD_isUnderWay xnc_RD_isUnderWay 1 (some .boolean) 1 22 (xw_W P) (xw_D P) (xw_ty P) [.ref (xw_a P (18 + r))] (σ, τ) (some (.int (xs_isW (σ.1 (24 + 8 * r)) 1 6))) (σ, τ) := by
  refine xf_start (own := xnR_RD) [some (.ref (xw_a P (18 + r)))] rfl (by decide) (Nat.le_of_ble_eq_true rfl) rfl (xf_cat rfl) ?_
  intro X hX hE
  have h9 : r = 0 ∨ r = 1 ∨ r = 2 := by omega
  rcases h9 with rfl | rfl | rfl
  · refine xf_aload_n hX 1 rfl 0 xnd_RD_isUnderWay_0 rfl rfl ?_
    refine xg_RD_state hX 4 rfl hr xk_RD_23 xnd_RD_isUnderWay_1 ?_
    refine xf_iconst hX 5 rfl (1) xnd_RD_isUnderWay_4 (by decide) ?_
    refine xf_bipush hX 7 rfl (6) xnd_RD_isUnderWay_5 (by decide) ?_
    refine xf_T3i hX 10 rfl (xc_isW P _ _ _ _ _) xq_SC_isWithin xk_RD_27 rfl rfl xnd_RD_isUnderWay_7 ?_
    refine xf_zret hX hE xnd_RD_isUnderWay_10 (xs_isW_z _ _ _) ?_
    exact ⟨rfl, rfl⟩
  · refine xf_aload_n hX 1 rfl 0 xnd_RD_isUnderWay_0 rfl rfl ?_
    refine xg_RD_state hX 4 rfl hr xk_RD_23 xnd_RD_isUnderWay_1 ?_
    refine xf_iconst hX 5 rfl (1) xnd_RD_isUnderWay_4 (by decide) ?_
    refine xf_bipush hX 7 rfl (6) xnd_RD_isUnderWay_5 (by decide) ?_
    refine xf_T3i hX 10 rfl (xc_isW P _ _ _ _ _) xq_SC_isWithin xk_RD_27 rfl rfl xnd_RD_isUnderWay_7 ?_
    refine xf_zret hX hE xnd_RD_isUnderWay_10 (xs_isW_z _ _ _) ?_
    exact ⟨rfl, rfl⟩
  · refine xf_aload_n hX 1 rfl 0 xnd_RD_isUnderWay_0 rfl rfl ?_
    refine xg_RD_state hX 4 rfl hr xk_RD_23 xnd_RD_isUnderWay_1 ?_
    refine xf_iconst hX 5 rfl (1) xnd_RD_isUnderWay_4 (by decide) ?_
    refine xf_bipush hX 7 rfl (6) xnd_RD_isUnderWay_5 (by decide) ?_
    refine xf_T3i hX 10 rfl (xc_isW P _ _ _ _ _) xq_SC_isWithin xk_RD_27 rfl rfl xnd_RD_isUnderWay_7 ?_
    refine xf_zret hX hE xnd_RD_isUnderWay_10 (xs_isW_z _ _ _) ?_
    exact ⟨rfl, rfl⟩

set_option maxRecDepth 100000 in
set_option maxHeartbeats 4000000 in
theorem xc_rbegin (P : xw_T) (σ τ : xf_T) (r : Nat) (hr : r < 3) (key : Int32) : xf_F (xw_l P) xny_RD_begin xnc_RD_begin 2 none 0 0 (xw_W P) (xw_D P) (xw_ty P) [.ref (xw_a P (18 + r)), .int key] (σ, τ) none (xf_I (xf_I (xf_I σ (24 + 8 * r + 3) key) (24 + 8 * r + 4) 0) (24 + 8 * r) 1, τ) := by
  refine xf_start (own := xnR_RD) [some (.ref (xw_a P (18 + r))), some (.int key)] rfl (by decide) (Nat.le_of_ble_eq_true rfl) rfl (xf_cat rfl) ?_
  intro X hX hE
  have h9 : r = 0 ∨ r = 1 ∨ r = 2 := by omega
  rcases h9 with rfl | rfl | rfl
  · refine xf_aload_n hX 1 rfl 0 xnd_RD_begin_0 rfl rfl ?_
    refine xf_iload_n hX 2 rfl 1 xnd_RD_begin_1 rfl rfl ?_
    refine xp_RD_key hX 5 rfl hr xk_RD_31 xnd_RD_begin_2 ?_
    refine xf_aload_n hX 6 rfl 0 xnd_RD_begin_5 rfl rfl ?_
    refine xf_iconst hX 7 rfl (0) xnd_RD_begin_6 (by decide) ?_
    refine xp_RD_retries hX 10 rfl hr xk_RD_34 xnd_RD_begin_7 ?_
    refine xf_aload_n hX 11 rfl 0 xnd_RD_begin_10 rfl rfl ?_
    refine xf_iconst hX 12 rfl (1) xnd_RD_begin_11 (by decide) ?_
    refine xp_RD_state hX 15 rfl hr xk_RD_23 xnd_RD_begin_12 ?_
    refine xf_vret hX hE xnd_RD_begin_15 ?_
    exact ⟨rfl, rfl⟩
  · refine xf_aload_n hX 1 rfl 0 xnd_RD_begin_0 rfl rfl ?_
    refine xf_iload_n hX 2 rfl 1 xnd_RD_begin_1 rfl rfl ?_
    refine xp_RD_key hX 5 rfl hr xk_RD_31 xnd_RD_begin_2 ?_
    refine xf_aload_n hX 6 rfl 0 xnd_RD_begin_5 rfl rfl ?_
    refine xf_iconst hX 7 rfl (0) xnd_RD_begin_6 (by decide) ?_
    refine xp_RD_retries hX 10 rfl hr xk_RD_34 xnd_RD_begin_7 ?_
    refine xf_aload_n hX 11 rfl 0 xnd_RD_begin_10 rfl rfl ?_
    refine xf_iconst hX 12 rfl (1) xnd_RD_begin_11 (by decide) ?_
    refine xp_RD_state hX 15 rfl hr xk_RD_23 xnd_RD_begin_12 ?_
    refine xf_vret hX hE xnd_RD_begin_15 ?_
    exact ⟨rfl, rfl⟩
  · refine xf_aload_n hX 1 rfl 0 xnd_RD_begin_0 rfl rfl ?_
    refine xf_iload_n hX 2 rfl 1 xnd_RD_begin_1 rfl rfl ?_
    refine xp_RD_key hX 5 rfl hr xk_RD_31 xnd_RD_begin_2 ?_
    refine xf_aload_n hX 6 rfl 0 xnd_RD_begin_5 rfl rfl ?_
    refine xf_iconst hX 7 rfl (0) xnd_RD_begin_6 (by decide) ?_
    refine xp_RD_retries hX 10 rfl hr xk_RD_34 xnd_RD_begin_7 ?_
    refine xf_aload_n hX 11 rfl 0 xnd_RD_begin_10 rfl rfl ?_
    refine xf_iconst hX 12 rfl (1) xnd_RD_begin_11 (by decide) ?_
    refine xp_RD_state hX 15 rfl hr xk_RD_23 xnd_RD_begin_12 ?_
    refine xf_vret hX hE xnd_RD_begin_15 ?_
    exact ⟨rfl, rfl⟩

set_option maxRecDepth 100000 in
set_option maxHeartbeats 4000000 in
theorem xc_kpV (P : xw_T) (σ τ : xf_T) (r : Nat) (hr : r < 3) : xf_F (xw_l P) xny_RD_keepVersion xnc_RD_keepVersion 1 none 3 61 (xw_W P) (xw_D P) (xw_ty P) [.ref (xw_a P (18 + r))] (σ, τ) none (xs_kpV (24 + 8 * r) σ, τ) := by
  refine xf_start (own := xnR_RD) [some (.ref (xw_a P (18 + r)))] rfl (by decide) (Nat.le_of_ble_eq_true rfl) rfl (xf_cat rfl) ?_
  intro X hX hE
  have h9 : r = 0 ∨ r = 1 ∨ r = 2 := by omega
  rcases h9 with rfl | rfl | rfl
  · refine xf_aload_n hX 1 rfl 0 xnd_RD_keepVersion_0 rfl rfl ?_
    refine xf_aload_n hX 2 rfl 0 xnd_RD_keepVersion_1 rfl rfl ?_
    refine xg_RD_store hX 5 rfl hr xk_RD_9 xnd_RD_keepVersion_2 ?_
    refine xf_aload_n hX 6 rfl 0 xnd_RD_keepVersion_5 rfl rfl ?_
    refine xg_RD_key hX 9 rfl hr xk_RD_31 xnd_RD_keepVersion_6 ?_
    refine xf_V1i hX 12 rfl (xc_versionFor P _ _ _) xq_ST_versionFor xk_RD_60 xrX_ST rfl rfl xnd_RD_keepVersion_9 ?_
    refine xp_RD_keptVersion hX 15 rfl hr xk_RD_65 xnd_RD_keepVersion_12 ?_
    refine xf_aload_n hX 16 rfl 0 xnd_RD_keepVersion_15 rfl rfl ?_
    refine xg_RD_keptVersion hX 19 rfl hr xk_RD_65 xnd_RD_keepVersion_16 ?_
    change xf_V X 19 _ [.int (xs_ver σ (σ.1 (24 + 8 * 0 + 3)))] _
    refine xf_iconst hX 20 rfl (1) xnd_RD_keepVersion_19 (by decide) ?_
    refine xf_iand hX 21 rfl xnd_RD_keepVersion_20 ?_
    refine xf_if_eq hX 24 rfl 40 xnd_RD_keepVersion_21 (by decide) (fun h21 => ?_) (fun h21 => ?_)
    · refine xf_aload_n hX 41 rfl 0 xnd_RD_keepVersion_40 rfl rfl ?_
      refine xf_iconst hX 42 rfl (2) xnd_RD_keepVersion_41 (by decide) ?_
      refine xp_RD_state hX 45 rfl hr xk_RD_23 xnd_RD_keepVersion_42 ?_
      refine xf_vret hX hE xnd_RD_keepVersion_45 ?_
      refine ⟨rfl, ?_⟩
      simp only [xs_kpV, eq_true h21, if_true, if_false]
      try rfl
    · refine xf_aload_n hX 25 rfl 0 xnd_RD_keepVersion_24 rfl rfl ?_
      refine xg_RD_tally hX 28 rfl hr xk_RD_19 xnd_RD_keepVersion_25 ?_
      refine xf_dup hX 29 rfl xnd_RD_keepVersion_28 rfl ?_
      refine xg_TA_waits hX 32 rfl xk_RD_68 xnd_RD_keepVersion_29 ?_
      refine xf_iconst hX 33 rfl (1) xnd_RD_keepVersion_32 (by decide) ?_
      refine xf_iadd hX 34 rfl xnd_RD_keepVersion_33 ?_
      refine xp_TA_waits hX 37 rfl xk_RD_68 xnd_RD_keepVersion_34 ?_
      refine xf_goto hX 45 xnd_RD_keepVersion_37 (by decide) ?_
      refine xf_vret hX hE xnd_RD_keepVersion_45 ?_
      refine ⟨rfl, ?_⟩
      simp only [xs_kpV, h21, if_true, if_false]
      try rfl
  · refine xf_aload_n hX 1 rfl 0 xnd_RD_keepVersion_0 rfl rfl ?_
    refine xf_aload_n hX 2 rfl 0 xnd_RD_keepVersion_1 rfl rfl ?_
    refine xg_RD_store hX 5 rfl hr xk_RD_9 xnd_RD_keepVersion_2 ?_
    refine xf_aload_n hX 6 rfl 0 xnd_RD_keepVersion_5 rfl rfl ?_
    refine xg_RD_key hX 9 rfl hr xk_RD_31 xnd_RD_keepVersion_6 ?_
    refine xf_V1i hX 12 rfl (xc_versionFor P _ _ _) xq_ST_versionFor xk_RD_60 xrX_ST rfl rfl xnd_RD_keepVersion_9 ?_
    refine xp_RD_keptVersion hX 15 rfl hr xk_RD_65 xnd_RD_keepVersion_12 ?_
    refine xf_aload_n hX 16 rfl 0 xnd_RD_keepVersion_15 rfl rfl ?_
    refine xg_RD_keptVersion hX 19 rfl hr xk_RD_65 xnd_RD_keepVersion_16 ?_
    change xf_V X 19 _ [.int (xs_ver σ (σ.1 (24 + 8 * 1 + 3)))] _
    refine xf_iconst hX 20 rfl (1) xnd_RD_keepVersion_19 (by decide) ?_
    refine xf_iand hX 21 rfl xnd_RD_keepVersion_20 ?_
    refine xf_if_eq hX 24 rfl 40 xnd_RD_keepVersion_21 (by decide) (fun h21 => ?_) (fun h21 => ?_)
    · refine xf_aload_n hX 41 rfl 0 xnd_RD_keepVersion_40 rfl rfl ?_
      refine xf_iconst hX 42 rfl (2) xnd_RD_keepVersion_41 (by decide) ?_
      refine xp_RD_state hX 45 rfl hr xk_RD_23 xnd_RD_keepVersion_42 ?_
      refine xf_vret hX hE xnd_RD_keepVersion_45 ?_
      refine ⟨rfl, ?_⟩
      simp only [xs_kpV, eq_true h21, if_true, if_false]
      try rfl
    · refine xf_aload_n hX 25 rfl 0 xnd_RD_keepVersion_24 rfl rfl ?_
      refine xg_RD_tally hX 28 rfl hr xk_RD_19 xnd_RD_keepVersion_25 ?_
      refine xf_dup hX 29 rfl xnd_RD_keepVersion_28 rfl ?_
      refine xg_TA_waits hX 32 rfl xk_RD_68 xnd_RD_keepVersion_29 ?_
      refine xf_iconst hX 33 rfl (1) xnd_RD_keepVersion_32 (by decide) ?_
      refine xf_iadd hX 34 rfl xnd_RD_keepVersion_33 ?_
      refine xp_TA_waits hX 37 rfl xk_RD_68 xnd_RD_keepVersion_34 ?_
      refine xf_goto hX 45 xnd_RD_keepVersion_37 (by decide) ?_
      refine xf_vret hX hE xnd_RD_keepVersion_45 ?_
      refine ⟨rfl, ?_⟩
      simp only [xs_kpV, h21, if_true, if_false]
      try rfl
  · refine xf_aload_n hX 1 rfl 0 xnd_RD_keepVersion_0 rfl rfl ?_
    refine xf_aload_n hX 2 rfl 0 xnd_RD_keepVersion_1 rfl rfl ?_
    refine xg_RD_store hX 5 rfl hr xk_RD_9 xnd_RD_keepVersion_2 ?_
    refine xf_aload_n hX 6 rfl 0 xnd_RD_keepVersion_5 rfl rfl ?_
    refine xg_RD_key hX 9 rfl hr xk_RD_31 xnd_RD_keepVersion_6 ?_
    refine xf_V1i hX 12 rfl (xc_versionFor P _ _ _) xq_ST_versionFor xk_RD_60 xrX_ST rfl rfl xnd_RD_keepVersion_9 ?_
    refine xp_RD_keptVersion hX 15 rfl hr xk_RD_65 xnd_RD_keepVersion_12 ?_
    refine xf_aload_n hX 16 rfl 0 xnd_RD_keepVersion_15 rfl rfl ?_
    refine xg_RD_keptVersion hX 19 rfl hr xk_RD_65 xnd_RD_keepVersion_16 ?_
    change xf_V X 19 _ [.int (xs_ver σ (σ.1 (24 + 8 * 2 + 3)))] _
    refine xf_iconst hX 20 rfl (1) xnd_RD_keepVersion_19 (by decide) ?_
    refine xf_iand hX 21 rfl xnd_RD_keepVersion_20 ?_
    refine xf_if_eq hX 24 rfl 40 xnd_RD_keepVersion_21 (by decide) (fun h21 => ?_) (fun h21 => ?_)
    · refine xf_aload_n hX 41 rfl 0 xnd_RD_keepVersion_40 rfl rfl ?_
      refine xf_iconst hX 42 rfl (2) xnd_RD_keepVersion_41 (by decide) ?_
      refine xp_RD_state hX 45 rfl hr xk_RD_23 xnd_RD_keepVersion_42 ?_
      refine xf_vret hX hE xnd_RD_keepVersion_45 ?_
      refine ⟨rfl, ?_⟩
      simp only [xs_kpV, eq_true h21, if_true, if_false]
      try rfl
    · refine xf_aload_n hX 25 rfl 0 xnd_RD_keepVersion_24 rfl rfl ?_
      refine xg_RD_tally hX 28 rfl hr xk_RD_19 xnd_RD_keepVersion_25 ?_
      refine xf_dup hX 29 rfl xnd_RD_keepVersion_28 rfl ?_
      refine xg_TA_waits hX 32 rfl xk_RD_68 xnd_RD_keepVersion_29 ?_
      refine xf_iconst hX 33 rfl (1) xnd_RD_keepVersion_32 (by decide) ?_
      refine xf_iadd hX 34 rfl xnd_RD_keepVersion_33 ?_
      refine xp_TA_waits hX 37 rfl xk_RD_68 xnd_RD_keepVersion_34 ?_
      refine xf_goto hX 45 xnd_RD_keepVersion_37 (by decide) ?_
      refine xf_vret hX hE xnd_RD_keepVersion_45 ?_
      refine ⟨rfl, ?_⟩
      simp only [xs_kpV, h21, if_true, if_false]
      try rfl

set_option maxRecDepth 100000 in
set_option maxHeartbeats 4000000 in
theorem xc_into (P : xw_T) (σ τ : xf_T) (r : Nat) (hr : r < 3) (b s : Int32) (ho : xs_okP (xw_n P) (xw_w P) σ) (hb : ∃ j, j < 8 ∧ b = nI j) : xf_F (xw_l P) xny_RD_lookInto xnc_RD_lookInto 4 none 3 65 (xw_W P) (xw_D P) (xw_ty P) [.ref (xw_a P (18 + r)), .int b, .int s] (σ, τ) none (xs_into (xw_w P) (24 + 8 * r) σ b s, τ) := by
  refine xf_start (own := xnR_RD) [some (.ref (xw_a P (18 + r))), some (.int b), some (.int s), none] rfl (by decide) (Nat.le_of_ble_eq_true rfl) rfl (xf_cat rfl) ?_
  intro X hX hE
  have h9 : r = 0 ∨ r = 1 ∨ r = 2 := by omega
  rcases h9 with rfl | rfl | rfl
  · refine xf_aload_n hX 1 rfl 0 xnd_RD_lookInto_0 rfl rfl ?_
    refine xg_RD_store hX 4 rfl hr xk_RD_9 xnd_RD_lookInto_1 ?_
    refine xf_iload_n hX 5 rfl 1 xnd_RD_lookInto_4 rfl rfl ?_
    refine xf_aload_n hX 6 rfl 0 xnd_RD_lookInto_5 rfl rfl ?_
    refine xg_RD_key hX 9 rfl hr xk_RD_31 xnd_RD_lookInto_6 ?_
    refine xf_V2i hX 12 rfl (xc_lkIn P _ _ _ _ ho hb) xq_ST_lookUpIn xk_RD_73 xrX_ST rfl rfl xnd_RD_lookInto_9 ?_
    refine xf_istore_n hX 13 rfl 3 xnd_RD_lookInto_12 rfl (by decide) ?_
    dsimp only [List.set]
    refine xf_aload_n hX 14 rfl 0 xnd_RD_lookInto_13 rfl rfl ?_
    refine xf_iload_n hX 15 rfl 3 xnd_RD_lookInto_14 rfl rfl ?_
    refine xf_iconst hX 16 rfl (-1) xnd_RD_lookInto_15 (by decide) ?_
    refine xf_icmp_eq hX 19 rfl 31 xnd_RD_lookInto_16 (by decide) (fun h16 => ?_) (fun h16 => ?_)
    · refine xf_iconst hX 32 rfl (-1) xnd_RD_lookInto_31 (by decide) ?_
      refine xp_RD_keptItem hX 35 rfl hr xk_RD_81 xnd_RD_lookInto_32 ?_
      refine xf_aload_n hX 36 rfl 0 xnd_RD_lookInto_35 rfl rfl ?_
      refine xf_iload_n hX 37 rfl 3 xnd_RD_lookInto_36 rfl rfl ?_
      refine xf_iconst hX 38 rfl (-1) xnd_RD_lookInto_37 (by decide) ?_
      refine xf_icmp_eq hX 41 rfl 45 xnd_RD_lookInto_38 (by decide) (fun h38 => ?_) (fun h38 => ?_)
      · refine xf_iload_n hX 46 rfl 2 xnd_RD_lookInto_45 rfl rfl ?_
        refine xp_RD_state hX 49 rfl hr xk_RD_23 xnd_RD_lookInto_46 ?_
        refine xf_vret hX hE xnd_RD_lookInto_49 ?_
        first | exact absurd h16 h38 | exact absurd h38 h16 | (refine ⟨rfl, ?_⟩; simp only [xs_into, eq_true h16, eq_true h38, if_true, if_false]; try rfl)
      · refine xf_iconst hX 42 rfl (4) xnd_RD_lookInto_41 (by decide) ?_
        refine xf_goto hX 46 xnd_RD_lookInto_42 (by decide) ?_
        refine xp_RD_state hX 49 rfl hr xk_RD_23 xnd_RD_lookInto_46 ?_
        refine xf_vret hX hE xnd_RD_lookInto_49 ?_
        first | exact absurd h16 h38 | exact absurd h38 h16 | (refine ⟨rfl, ?_⟩; simp only [xs_into, eq_true h16, h38, if_true, if_false]; try rfl)
    · refine xf_aload_n hX 20 rfl 0 xnd_RD_lookInto_19 rfl rfl ?_
      refine xg_RD_store hX 23 rfl hr xk_RD_9 xnd_RD_lookInto_20 ?_
      refine xg_ST_places hX 26 rfl xk_RD_77 xnd_RD_lookInto_23 ?_
      refine xf_iload_n hX 27 rfl 3 xnd_RD_lookInto_26 rfl rfl ?_
      refine xaX_iaload hX 28 rfl rfl ((ho.fIn hb _).resolve_left h16) xnd_RD_lookInto_27 ?_
      refine xf_goto hX 32 xnd_RD_lookInto_28 (by decide) ?_
      refine xp_RD_keptItem hX 35 rfl hr xk_RD_81 xnd_RD_lookInto_32 ?_
      refine xf_aload_n hX 36 rfl 0 xnd_RD_lookInto_35 rfl rfl ?_
      refine xf_iload_n hX 37 rfl 3 xnd_RD_lookInto_36 rfl rfl ?_
      refine xf_iconst hX 38 rfl (-1) xnd_RD_lookInto_37 (by decide) ?_
      refine xf_icmp_eq hX 41 rfl 45 xnd_RD_lookInto_38 (by decide) (fun h38 => ?_) (fun h38 => ?_)
      · refine xf_iload_n hX 46 rfl 2 xnd_RD_lookInto_45 rfl rfl ?_
        refine xp_RD_state hX 49 rfl hr xk_RD_23 xnd_RD_lookInto_46 ?_
        refine xf_vret hX hE xnd_RD_lookInto_49 ?_
        first | exact absurd h16 h38 | exact absurd h38 h16 | (refine ⟨rfl, ?_⟩; simp only [xs_into, h16, eq_true h38, if_true, if_false]; try rfl)
      · refine xf_iconst hX 42 rfl (4) xnd_RD_lookInto_41 (by decide) ?_
        refine xf_goto hX 46 xnd_RD_lookInto_42 (by decide) ?_
        refine xp_RD_state hX 49 rfl hr xk_RD_23 xnd_RD_lookInto_46 ?_
        refine xf_vret hX hE xnd_RD_lookInto_49 ?_
        first | exact absurd h16 h38 | exact absurd h38 h16 | (refine ⟨rfl, ?_⟩; simp only [xs_into, h16, h38, if_true, if_false]; try rfl)
  · refine xf_aload_n hX 1 rfl 0 xnd_RD_lookInto_0 rfl rfl ?_
    refine xg_RD_store hX 4 rfl hr xk_RD_9 xnd_RD_lookInto_1 ?_
    refine xf_iload_n hX 5 rfl 1 xnd_RD_lookInto_4 rfl rfl ?_
    refine xf_aload_n hX 6 rfl 0 xnd_RD_lookInto_5 rfl rfl ?_
    refine xg_RD_key hX 9 rfl hr xk_RD_31 xnd_RD_lookInto_6 ?_
    refine xf_V2i hX 12 rfl (xc_lkIn P _ _ _ _ ho hb) xq_ST_lookUpIn xk_RD_73 xrX_ST rfl rfl xnd_RD_lookInto_9 ?_
    refine xf_istore_n hX 13 rfl 3 xnd_RD_lookInto_12 rfl (by decide) ?_
    dsimp only [List.set]
    refine xf_aload_n hX 14 rfl 0 xnd_RD_lookInto_13 rfl rfl ?_
    refine xf_iload_n hX 15 rfl 3 xnd_RD_lookInto_14 rfl rfl ?_
    refine xf_iconst hX 16 rfl (-1) xnd_RD_lookInto_15 (by decide) ?_
    refine xf_icmp_eq hX 19 rfl 31 xnd_RD_lookInto_16 (by decide) (fun h16 => ?_) (fun h16 => ?_)
    · refine xf_iconst hX 32 rfl (-1) xnd_RD_lookInto_31 (by decide) ?_
      refine xp_RD_keptItem hX 35 rfl hr xk_RD_81 xnd_RD_lookInto_32 ?_
      refine xf_aload_n hX 36 rfl 0 xnd_RD_lookInto_35 rfl rfl ?_
      refine xf_iload_n hX 37 rfl 3 xnd_RD_lookInto_36 rfl rfl ?_
      refine xf_iconst hX 38 rfl (-1) xnd_RD_lookInto_37 (by decide) ?_
      refine xf_icmp_eq hX 41 rfl 45 xnd_RD_lookInto_38 (by decide) (fun h38 => ?_) (fun h38 => ?_)
      · refine xf_iload_n hX 46 rfl 2 xnd_RD_lookInto_45 rfl rfl ?_
        refine xp_RD_state hX 49 rfl hr xk_RD_23 xnd_RD_lookInto_46 ?_
        refine xf_vret hX hE xnd_RD_lookInto_49 ?_
        first | exact absurd h16 h38 | exact absurd h38 h16 | (refine ⟨rfl, ?_⟩; simp only [xs_into, eq_true h16, eq_true h38, if_true, if_false]; try rfl)
      · refine xf_iconst hX 42 rfl (4) xnd_RD_lookInto_41 (by decide) ?_
        refine xf_goto hX 46 xnd_RD_lookInto_42 (by decide) ?_
        refine xp_RD_state hX 49 rfl hr xk_RD_23 xnd_RD_lookInto_46 ?_
        refine xf_vret hX hE xnd_RD_lookInto_49 ?_
        first | exact absurd h16 h38 | exact absurd h38 h16 | (refine ⟨rfl, ?_⟩; simp only [xs_into, eq_true h16, h38, if_true, if_false]; try rfl)
    · refine xf_aload_n hX 20 rfl 0 xnd_RD_lookInto_19 rfl rfl ?_
      refine xg_RD_store hX 23 rfl hr xk_RD_9 xnd_RD_lookInto_20 ?_
      refine xg_ST_places hX 26 rfl xk_RD_77 xnd_RD_lookInto_23 ?_
      refine xf_iload_n hX 27 rfl 3 xnd_RD_lookInto_26 rfl rfl ?_
      refine xaX_iaload hX 28 rfl rfl ((ho.fIn hb _).resolve_left h16) xnd_RD_lookInto_27 ?_
      refine xf_goto hX 32 xnd_RD_lookInto_28 (by decide) ?_
      refine xp_RD_keptItem hX 35 rfl hr xk_RD_81 xnd_RD_lookInto_32 ?_
      refine xf_aload_n hX 36 rfl 0 xnd_RD_lookInto_35 rfl rfl ?_
      refine xf_iload_n hX 37 rfl 3 xnd_RD_lookInto_36 rfl rfl ?_
      refine xf_iconst hX 38 rfl (-1) xnd_RD_lookInto_37 (by decide) ?_
      refine xf_icmp_eq hX 41 rfl 45 xnd_RD_lookInto_38 (by decide) (fun h38 => ?_) (fun h38 => ?_)
      · refine xf_iload_n hX 46 rfl 2 xnd_RD_lookInto_45 rfl rfl ?_
        refine xp_RD_state hX 49 rfl hr xk_RD_23 xnd_RD_lookInto_46 ?_
        refine xf_vret hX hE xnd_RD_lookInto_49 ?_
        first | exact absurd h16 h38 | exact absurd h38 h16 | (refine ⟨rfl, ?_⟩; simp only [xs_into, h16, eq_true h38, if_true, if_false]; try rfl)
      · refine xf_iconst hX 42 rfl (4) xnd_RD_lookInto_41 (by decide) ?_
        refine xf_goto hX 46 xnd_RD_lookInto_42 (by decide) ?_
        refine xp_RD_state hX 49 rfl hr xk_RD_23 xnd_RD_lookInto_46 ?_
        refine xf_vret hX hE xnd_RD_lookInto_49 ?_
        first | exact absurd h16 h38 | exact absurd h38 h16 | (refine ⟨rfl, ?_⟩; simp only [xs_into, h16, h38, if_true, if_false]; try rfl)
  · refine xf_aload_n hX 1 rfl 0 xnd_RD_lookInto_0 rfl rfl ?_
    refine xg_RD_store hX 4 rfl hr xk_RD_9 xnd_RD_lookInto_1 ?_
    refine xf_iload_n hX 5 rfl 1 xnd_RD_lookInto_4 rfl rfl ?_
    refine xf_aload_n hX 6 rfl 0 xnd_RD_lookInto_5 rfl rfl ?_
    refine xg_RD_key hX 9 rfl hr xk_RD_31 xnd_RD_lookInto_6 ?_
    refine xf_V2i hX 12 rfl (xc_lkIn P _ _ _ _ ho hb) xq_ST_lookUpIn xk_RD_73 xrX_ST rfl rfl xnd_RD_lookInto_9 ?_
    refine xf_istore_n hX 13 rfl 3 xnd_RD_lookInto_12 rfl (by decide) ?_
    dsimp only [List.set]
    refine xf_aload_n hX 14 rfl 0 xnd_RD_lookInto_13 rfl rfl ?_
    refine xf_iload_n hX 15 rfl 3 xnd_RD_lookInto_14 rfl rfl ?_
    refine xf_iconst hX 16 rfl (-1) xnd_RD_lookInto_15 (by decide) ?_
    refine xf_icmp_eq hX 19 rfl 31 xnd_RD_lookInto_16 (by decide) (fun h16 => ?_) (fun h16 => ?_)
    · refine xf_iconst hX 32 rfl (-1) xnd_RD_lookInto_31 (by decide) ?_
      refine xp_RD_keptItem hX 35 rfl hr xk_RD_81 xnd_RD_lookInto_32 ?_
      refine xf_aload_n hX 36 rfl 0 xnd_RD_lookInto_35 rfl rfl ?_
      refine xf_iload_n hX 37 rfl 3 xnd_RD_lookInto_36 rfl rfl ?_
      refine xf_iconst hX 38 rfl (-1) xnd_RD_lookInto_37 (by decide) ?_
      refine xf_icmp_eq hX 41 rfl 45 xnd_RD_lookInto_38 (by decide) (fun h38 => ?_) (fun h38 => ?_)
      · refine xf_iload_n hX 46 rfl 2 xnd_RD_lookInto_45 rfl rfl ?_
        refine xp_RD_state hX 49 rfl hr xk_RD_23 xnd_RD_lookInto_46 ?_
        refine xf_vret hX hE xnd_RD_lookInto_49 ?_
        first | exact absurd h16 h38 | exact absurd h38 h16 | (refine ⟨rfl, ?_⟩; simp only [xs_into, eq_true h16, eq_true h38, if_true, if_false]; try rfl)
      · refine xf_iconst hX 42 rfl (4) xnd_RD_lookInto_41 (by decide) ?_
        refine xf_goto hX 46 xnd_RD_lookInto_42 (by decide) ?_
        refine xp_RD_state hX 49 rfl hr xk_RD_23 xnd_RD_lookInto_46 ?_
        refine xf_vret hX hE xnd_RD_lookInto_49 ?_
        first | exact absurd h16 h38 | exact absurd h38 h16 | (refine ⟨rfl, ?_⟩; simp only [xs_into, eq_true h16, h38, if_true, if_false]; try rfl)
    · refine xf_aload_n hX 20 rfl 0 xnd_RD_lookInto_19 rfl rfl ?_
      refine xg_RD_store hX 23 rfl hr xk_RD_9 xnd_RD_lookInto_20 ?_
      refine xg_ST_places hX 26 rfl xk_RD_77 xnd_RD_lookInto_23 ?_
      refine xf_iload_n hX 27 rfl 3 xnd_RD_lookInto_26 rfl rfl ?_
      refine xaX_iaload hX 28 rfl rfl ((ho.fIn hb _).resolve_left h16) xnd_RD_lookInto_27 ?_
      refine xf_goto hX 32 xnd_RD_lookInto_28 (by decide) ?_
      refine xp_RD_keptItem hX 35 rfl hr xk_RD_81 xnd_RD_lookInto_32 ?_
      refine xf_aload_n hX 36 rfl 0 xnd_RD_lookInto_35 rfl rfl ?_
      refine xf_iload_n hX 37 rfl 3 xnd_RD_lookInto_36 rfl rfl ?_
      refine xf_iconst hX 38 rfl (-1) xnd_RD_lookInto_37 (by decide) ?_
      refine xf_icmp_eq hX 41 rfl 45 xnd_RD_lookInto_38 (by decide) (fun h38 => ?_) (fun h38 => ?_)
      · refine xf_iload_n hX 46 rfl 2 xnd_RD_lookInto_45 rfl rfl ?_
        refine xp_RD_state hX 49 rfl hr xk_RD_23 xnd_RD_lookInto_46 ?_
        refine xf_vret hX hE xnd_RD_lookInto_49 ?_
        first | exact absurd h16 h38 | exact absurd h38 h16 | (refine ⟨rfl, ?_⟩; simp only [xs_into, h16, eq_true h38, if_true, if_false]; try rfl)
      · refine xf_iconst hX 42 rfl (4) xnd_RD_lookInto_41 (by decide) ?_
        refine xf_goto hX 46 xnd_RD_lookInto_42 (by decide) ?_
        refine xp_RD_state hX 49 rfl hr xk_RD_23 xnd_RD_lookInto_46 ?_
        refine xf_vret hX hE xnd_RD_lookInto_49 ?_
        first | exact absurd h16 h38 | exact absurd h38 h16 | (refine ⟨rfl, ?_⟩; simp only [xs_into, h16, h38, if_true, if_false]; try rfl)

set_option maxRecDepth 100000 in
set_option maxHeartbeats 4000000 in
theorem xc_copy (P : xw_T) (σ τ : xf_T) (r : Nat) (hr : r < 3) (hi : vp_in (σ.1 (24 + 8 * r + 6)) (xw_n P)) : xf_F (xw_l P) xny_RD_copyItem xnc_RD_copyItem 1 none 0 0 (xw_W P) (xw_D P) (xw_ty P) [.ref (xw_a P (18 + r))] (σ, τ) none (xs_copy (24 + 8 * r) σ, τ) := by
  refine xf_start (own := xnR_RD) [some (.ref (xw_a P (18 + r)))] rfl (by decide) (Nat.le_of_ble_eq_true rfl) rfl (xf_cat rfl) ?_
  intro X hX hE
  have h9 : r = 0 ∨ r = 1 ∨ r = 2 := by omega
  rcases h9 with rfl | rfl | rfl
  · refine xf_aload_n hX 1 rfl 0 xnd_RD_copyItem_0 rfl rfl ?_
    refine xf_aload_n hX 2 rfl 0 xnd_RD_copyItem_1 rfl rfl ?_
    refine xg_RD_store hX 5 rfl hr xk_RD_9 xnd_RD_copyItem_2 ?_
    refine xg_ST_values hX 8 rfl xk_RD_84 xnd_RD_copyItem_5 ?_
    refine xf_aload_n hX 9 rfl 0 xnd_RD_copyItem_8 rfl rfl ?_
    refine xg_RD_keptItem hX 12 rfl hr xk_RD_81 xnd_RD_copyItem_9 ?_
    refine xaX_iaload hX 13 rfl rfl hi xnd_RD_copyItem_12 ?_
    refine xp_RD_copiedValue hX 16 rfl hr xk_RD_87 xnd_RD_copyItem_13 ?_
    refine xf_aload_n hX 17 rfl 0 xnd_RD_copyItem_16 rfl rfl ?_
    refine xf_aload_n hX 18 rfl 0 xnd_RD_copyItem_17 rfl rfl ?_
    refine xg_RD_store hX 21 rfl hr xk_RD_9 xnd_RD_copyItem_18 ?_
    refine xg_ST_tokens hX 24 rfl xk_RD_90 xnd_RD_copyItem_21 ?_
    refine xf_aload_n hX 25 rfl 0 xnd_RD_copyItem_24 rfl rfl ?_
    refine xg_RD_keptItem hX 28 rfl hr xk_RD_81 xnd_RD_copyItem_25 ?_
    refine xaX_iaload hX 29 rfl rfl hi xnd_RD_copyItem_28 ?_
    refine xp_RD_copiedToken hX 32 rfl hr xk_RD_93 xnd_RD_copyItem_29 ?_
    refine xf_aload_n hX 33 rfl 0 xnd_RD_copyItem_32 rfl rfl ?_
    refine xf_aload_n hX 34 rfl 0 xnd_RD_copyItem_33 rfl rfl ?_
    refine xg_RD_store hX 37 rfl hr xk_RD_9 xnd_RD_copyItem_34 ?_
    refine xg_ST_expiries hX 40 rfl xk_RD_96 xnd_RD_copyItem_37 ?_
    refine xf_aload_n hX 41 rfl 0 xnd_RD_copyItem_40 rfl rfl ?_
    refine xg_RD_keptItem hX 44 rfl hr xk_RD_81 xnd_RD_copyItem_41 ?_
    refine xaX_iaload hX 45 rfl rfl hi xnd_RD_copyItem_44 ?_
    refine xp_RD_copiedExpiry hX 48 rfl hr xk_RD_99 xnd_RD_copyItem_45 ?_
    refine xf_vret hX hE xnd_RD_copyItem_48 ?_
    exact ⟨rfl, rfl⟩
  · refine xf_aload_n hX 1 rfl 0 xnd_RD_copyItem_0 rfl rfl ?_
    refine xf_aload_n hX 2 rfl 0 xnd_RD_copyItem_1 rfl rfl ?_
    refine xg_RD_store hX 5 rfl hr xk_RD_9 xnd_RD_copyItem_2 ?_
    refine xg_ST_values hX 8 rfl xk_RD_84 xnd_RD_copyItem_5 ?_
    refine xf_aload_n hX 9 rfl 0 xnd_RD_copyItem_8 rfl rfl ?_
    refine xg_RD_keptItem hX 12 rfl hr xk_RD_81 xnd_RD_copyItem_9 ?_
    refine xaX_iaload hX 13 rfl rfl hi xnd_RD_copyItem_12 ?_
    refine xp_RD_copiedValue hX 16 rfl hr xk_RD_87 xnd_RD_copyItem_13 ?_
    refine xf_aload_n hX 17 rfl 0 xnd_RD_copyItem_16 rfl rfl ?_
    refine xf_aload_n hX 18 rfl 0 xnd_RD_copyItem_17 rfl rfl ?_
    refine xg_RD_store hX 21 rfl hr xk_RD_9 xnd_RD_copyItem_18 ?_
    refine xg_ST_tokens hX 24 rfl xk_RD_90 xnd_RD_copyItem_21 ?_
    refine xf_aload_n hX 25 rfl 0 xnd_RD_copyItem_24 rfl rfl ?_
    refine xg_RD_keptItem hX 28 rfl hr xk_RD_81 xnd_RD_copyItem_25 ?_
    refine xaX_iaload hX 29 rfl rfl hi xnd_RD_copyItem_28 ?_
    refine xp_RD_copiedToken hX 32 rfl hr xk_RD_93 xnd_RD_copyItem_29 ?_
    refine xf_aload_n hX 33 rfl 0 xnd_RD_copyItem_32 rfl rfl ?_
    refine xf_aload_n hX 34 rfl 0 xnd_RD_copyItem_33 rfl rfl ?_
    refine xg_RD_store hX 37 rfl hr xk_RD_9 xnd_RD_copyItem_34 ?_
    refine xg_ST_expiries hX 40 rfl xk_RD_96 xnd_RD_copyItem_37 ?_
    refine xf_aload_n hX 41 rfl 0 xnd_RD_copyItem_40 rfl rfl ?_
    refine xg_RD_keptItem hX 44 rfl hr xk_RD_81 xnd_RD_copyItem_41 ?_
    refine xaX_iaload hX 45 rfl rfl hi xnd_RD_copyItem_44 ?_
    refine xp_RD_copiedExpiry hX 48 rfl hr xk_RD_99 xnd_RD_copyItem_45 ?_
    refine xf_vret hX hE xnd_RD_copyItem_48 ?_
    exact ⟨rfl, rfl⟩
  · refine xf_aload_n hX 1 rfl 0 xnd_RD_copyItem_0 rfl rfl ?_
    refine xf_aload_n hX 2 rfl 0 xnd_RD_copyItem_1 rfl rfl ?_
    refine xg_RD_store hX 5 rfl hr xk_RD_9 xnd_RD_copyItem_2 ?_
    refine xg_ST_values hX 8 rfl xk_RD_84 xnd_RD_copyItem_5 ?_
    refine xf_aload_n hX 9 rfl 0 xnd_RD_copyItem_8 rfl rfl ?_
    refine xg_RD_keptItem hX 12 rfl hr xk_RD_81 xnd_RD_copyItem_9 ?_
    refine xaX_iaload hX 13 rfl rfl hi xnd_RD_copyItem_12 ?_
    refine xp_RD_copiedValue hX 16 rfl hr xk_RD_87 xnd_RD_copyItem_13 ?_
    refine xf_aload_n hX 17 rfl 0 xnd_RD_copyItem_16 rfl rfl ?_
    refine xf_aload_n hX 18 rfl 0 xnd_RD_copyItem_17 rfl rfl ?_
    refine xg_RD_store hX 21 rfl hr xk_RD_9 xnd_RD_copyItem_18 ?_
    refine xg_ST_tokens hX 24 rfl xk_RD_90 xnd_RD_copyItem_21 ?_
    refine xf_aload_n hX 25 rfl 0 xnd_RD_copyItem_24 rfl rfl ?_
    refine xg_RD_keptItem hX 28 rfl hr xk_RD_81 xnd_RD_copyItem_25 ?_
    refine xaX_iaload hX 29 rfl rfl hi xnd_RD_copyItem_28 ?_
    refine xp_RD_copiedToken hX 32 rfl hr xk_RD_93 xnd_RD_copyItem_29 ?_
    refine xf_aload_n hX 33 rfl 0 xnd_RD_copyItem_32 rfl rfl ?_
    refine xf_aload_n hX 34 rfl 0 xnd_RD_copyItem_33 rfl rfl ?_
    refine xg_RD_store hX 37 rfl hr xk_RD_9 xnd_RD_copyItem_34 ?_
    refine xg_ST_expiries hX 40 rfl xk_RD_96 xnd_RD_copyItem_37 ?_
    refine xf_aload_n hX 41 rfl 0 xnd_RD_copyItem_40 rfl rfl ?_
    refine xg_RD_keptItem hX 44 rfl hr xk_RD_81 xnd_RD_copyItem_41 ?_
    refine xaX_iaload hX 45 rfl rfl hi xnd_RD_copyItem_44 ?_
    refine xp_RD_copiedExpiry hX 48 rfl hr xk_RD_99 xnd_RD_copyItem_45 ?_
    refine xf_vret hX hE xnd_RD_copyItem_48 ?_
    exact ⟨rfl, rfl⟩

set_option maxRecDepth 100000 in
set_option maxHeartbeats 4000000 in
theorem xc_endR (P : xw_T) (σ τ : xf_T) (r : Nat) (hr : r < 3) (hit : Int32) (hi : ¬ hit = 0 → vp_in (σ.1 (24 + 8 * r + 6)) (xw_n P)) : xf_F (xw_l P) xny_RD_end xnc_RD_end 2 none 0 0 (xw_W P) (xw_D P) (xw_ty P) [.ref (xw_a P (18 + r)), .int hit] (σ, τ) none (xs_endR (24 + 8 * r) σ hit, τ) := by
  refine xf_start (own := xnR_RD) [some (.ref (xw_a P (18 + r))), some (.int hit)] rfl (by decide) (Nat.le_of_ble_eq_true rfl) rfl (xf_cat rfl) ?_
  intro X hX hE
  have h9 : r = 0 ∨ r = 1 ∨ r = 2 := by omega
  rcases h9 with rfl | rfl | rfl
  · refine xf_iload_n hX 1 rfl 1 xnd_RD_end_0 rfl rfl ?_
    refine xf_if_eq hX 4 rfl 17 xnd_RD_end_1 (by decide) (fun h1 => ?_) (fun h1 => ?_)
    · refine xf_aload_n hX 18 rfl 0 xnd_RD_end_17 rfl rfl ?_
      refine xf_iload_n hX 19 rfl 1 xnd_RD_end_18 rfl rfl ?_
      refine xf_if_eq hX 22 rfl 27 xnd_RD_end_19 (by decide) (fun h19 => ?_) (fun h19 => ?_)
      · refine xf_bipush hX 29 rfl (8) xnd_RD_end_27 (by decide) ?_
        refine xp_RD_state hX 32 rfl hr xk_RD_23 xnd_RD_end_29 ?_
        refine xf_vret hX hE xnd_RD_end_32 ?_
        first | exact absurd h1 h19 | exact absurd h19 h1 | (refine ⟨rfl, ?_⟩; simp only [xs_endR, eq_true h1, eq_true h19, if_true, if_false]; try rfl)
      · refine xf_bipush hX 24 rfl (7) xnd_RD_end_22 (by decide) ?_
        refine xf_goto hX 29 xnd_RD_end_24 (by decide) ?_
        refine xp_RD_state hX 32 rfl hr xk_RD_23 xnd_RD_end_29 ?_
        refine xf_vret hX hE xnd_RD_end_32 ?_
        first | exact absurd h1 h19 | exact absurd h19 h1 | (refine ⟨rfl, ?_⟩; simp only [xs_endR, eq_true h1, h19, if_true, if_false]; try rfl)
    · refine xf_aload_n hX 5 rfl 0 xnd_RD_end_4 rfl rfl ?_
      refine xg_RD_store hX 8 rfl hr xk_RD_9 xnd_RD_end_5 ?_
      refine xg_ST_bits hX 11 rfl xk_RD_120 xnd_RD_end_8 ?_
      refine xf_aload_n hX 12 rfl 0 xnd_RD_end_11 rfl rfl ?_
      refine xg_RD_keptItem hX 15 rfl hr xk_RD_81 xnd_RD_end_12 ?_
      refine xf_iconst hX 16 rfl (1) xnd_RD_end_15 (by decide) ?_
      refine xaX_bastore hX 17 rfl rfl (hi h1) rfl xnd_RD_end_16 ?_
      refine xf_aload_n hX 18 rfl 0 xnd_RD_end_17 rfl rfl ?_
      refine xf_iload_n hX 19 rfl 1 xnd_RD_end_18 rfl rfl ?_
      refine xf_if_eq hX 22 rfl 27 xnd_RD_end_19 (by decide) (fun h19 => ?_) (fun h19 => ?_)
      · refine xf_bipush hX 29 rfl (8) xnd_RD_end_27 (by decide) ?_
        refine xp_RD_state hX 32 rfl hr xk_RD_23 xnd_RD_end_29 ?_
        refine xf_vret hX hE xnd_RD_end_32 ?_
        first | exact absurd h1 h19 | exact absurd h19 h1 | (refine ⟨rfl, ?_⟩; simp only [xs_endR, h1, eq_true h19, if_true, if_false]; try rfl)
      · refine xf_bipush hX 24 rfl (7) xnd_RD_end_22 (by decide) ?_
        refine xf_goto hX 29 xnd_RD_end_24 (by decide) ?_
        refine xp_RD_state hX 32 rfl hr xk_RD_23 xnd_RD_end_29 ?_
        refine xf_vret hX hE xnd_RD_end_32 ?_
        first | exact absurd h1 h19 | exact absurd h19 h1 | (refine ⟨rfl, ?_⟩; simp only [xs_endR, h1, h19, if_true, if_false]; try rfl)
  · refine xf_iload_n hX 1 rfl 1 xnd_RD_end_0 rfl rfl ?_
    refine xf_if_eq hX 4 rfl 17 xnd_RD_end_1 (by decide) (fun h1 => ?_) (fun h1 => ?_)
    · refine xf_aload_n hX 18 rfl 0 xnd_RD_end_17 rfl rfl ?_
      refine xf_iload_n hX 19 rfl 1 xnd_RD_end_18 rfl rfl ?_
      refine xf_if_eq hX 22 rfl 27 xnd_RD_end_19 (by decide) (fun h19 => ?_) (fun h19 => ?_)
      · refine xf_bipush hX 29 rfl (8) xnd_RD_end_27 (by decide) ?_
        refine xp_RD_state hX 32 rfl hr xk_RD_23 xnd_RD_end_29 ?_
        refine xf_vret hX hE xnd_RD_end_32 ?_
        first | exact absurd h1 h19 | exact absurd h19 h1 | (refine ⟨rfl, ?_⟩; simp only [xs_endR, eq_true h1, eq_true h19, if_true, if_false]; try rfl)
      · refine xf_bipush hX 24 rfl (7) xnd_RD_end_22 (by decide) ?_
        refine xf_goto hX 29 xnd_RD_end_24 (by decide) ?_
        refine xp_RD_state hX 32 rfl hr xk_RD_23 xnd_RD_end_29 ?_
        refine xf_vret hX hE xnd_RD_end_32 ?_
        first | exact absurd h1 h19 | exact absurd h19 h1 | (refine ⟨rfl, ?_⟩; simp only [xs_endR, eq_true h1, h19, if_true, if_false]; try rfl)
    · refine xf_aload_n hX 5 rfl 0 xnd_RD_end_4 rfl rfl ?_
      refine xg_RD_store hX 8 rfl hr xk_RD_9 xnd_RD_end_5 ?_
      refine xg_ST_bits hX 11 rfl xk_RD_120 xnd_RD_end_8 ?_
      refine xf_aload_n hX 12 rfl 0 xnd_RD_end_11 rfl rfl ?_
      refine xg_RD_keptItem hX 15 rfl hr xk_RD_81 xnd_RD_end_12 ?_
      refine xf_iconst hX 16 rfl (1) xnd_RD_end_15 (by decide) ?_
      refine xaX_bastore hX 17 rfl rfl (hi h1) rfl xnd_RD_end_16 ?_
      refine xf_aload_n hX 18 rfl 0 xnd_RD_end_17 rfl rfl ?_
      refine xf_iload_n hX 19 rfl 1 xnd_RD_end_18 rfl rfl ?_
      refine xf_if_eq hX 22 rfl 27 xnd_RD_end_19 (by decide) (fun h19 => ?_) (fun h19 => ?_)
      · refine xf_bipush hX 29 rfl (8) xnd_RD_end_27 (by decide) ?_
        refine xp_RD_state hX 32 rfl hr xk_RD_23 xnd_RD_end_29 ?_
        refine xf_vret hX hE xnd_RD_end_32 ?_
        first | exact absurd h1 h19 | exact absurd h19 h1 | (refine ⟨rfl, ?_⟩; simp only [xs_endR, h1, eq_true h19, if_true, if_false]; try rfl)
      · refine xf_bipush hX 24 rfl (7) xnd_RD_end_22 (by decide) ?_
        refine xf_goto hX 29 xnd_RD_end_24 (by decide) ?_
        refine xp_RD_state hX 32 rfl hr xk_RD_23 xnd_RD_end_29 ?_
        refine xf_vret hX hE xnd_RD_end_32 ?_
        first | exact absurd h1 h19 | exact absurd h19 h1 | (refine ⟨rfl, ?_⟩; simp only [xs_endR, h1, h19, if_true, if_false]; try rfl)
  · refine xf_iload_n hX 1 rfl 1 xnd_RD_end_0 rfl rfl ?_
    refine xf_if_eq hX 4 rfl 17 xnd_RD_end_1 (by decide) (fun h1 => ?_) (fun h1 => ?_)
    · refine xf_aload_n hX 18 rfl 0 xnd_RD_end_17 rfl rfl ?_
      refine xf_iload_n hX 19 rfl 1 xnd_RD_end_18 rfl rfl ?_
      refine xf_if_eq hX 22 rfl 27 xnd_RD_end_19 (by decide) (fun h19 => ?_) (fun h19 => ?_)
      · refine xf_bipush hX 29 rfl (8) xnd_RD_end_27 (by decide) ?_
        refine xp_RD_state hX 32 rfl hr xk_RD_23 xnd_RD_end_29 ?_
        refine xf_vret hX hE xnd_RD_end_32 ?_
        first | exact absurd h1 h19 | exact absurd h19 h1 | (refine ⟨rfl, ?_⟩; simp only [xs_endR, eq_true h1, eq_true h19, if_true, if_false]; try rfl)
      · refine xf_bipush hX 24 rfl (7) xnd_RD_end_22 (by decide) ?_
        refine xf_goto hX 29 xnd_RD_end_24 (by decide) ?_
        refine xp_RD_state hX 32 rfl hr xk_RD_23 xnd_RD_end_29 ?_
        refine xf_vret hX hE xnd_RD_end_32 ?_
        first | exact absurd h1 h19 | exact absurd h19 h1 | (refine ⟨rfl, ?_⟩; simp only [xs_endR, eq_true h1, h19, if_true, if_false]; try rfl)
    · refine xf_aload_n hX 5 rfl 0 xnd_RD_end_4 rfl rfl ?_
      refine xg_RD_store hX 8 rfl hr xk_RD_9 xnd_RD_end_5 ?_
      refine xg_ST_bits hX 11 rfl xk_RD_120 xnd_RD_end_8 ?_
      refine xf_aload_n hX 12 rfl 0 xnd_RD_end_11 rfl rfl ?_
      refine xg_RD_keptItem hX 15 rfl hr xk_RD_81 xnd_RD_end_12 ?_
      refine xf_iconst hX 16 rfl (1) xnd_RD_end_15 (by decide) ?_
      refine xaX_bastore hX 17 rfl rfl (hi h1) rfl xnd_RD_end_16 ?_
      refine xf_aload_n hX 18 rfl 0 xnd_RD_end_17 rfl rfl ?_
      refine xf_iload_n hX 19 rfl 1 xnd_RD_end_18 rfl rfl ?_
      refine xf_if_eq hX 22 rfl 27 xnd_RD_end_19 (by decide) (fun h19 => ?_) (fun h19 => ?_)
      · refine xf_bipush hX 29 rfl (8) xnd_RD_end_27 (by decide) ?_
        refine xp_RD_state hX 32 rfl hr xk_RD_23 xnd_RD_end_29 ?_
        refine xf_vret hX hE xnd_RD_end_32 ?_
        first | exact absurd h1 h19 | exact absurd h19 h1 | (refine ⟨rfl, ?_⟩; simp only [xs_endR, h1, eq_true h19, if_true, if_false]; try rfl)
      · refine xf_bipush hX 24 rfl (7) xnd_RD_end_22 (by decide) ?_
        refine xf_goto hX 29 xnd_RD_end_24 (by decide) ?_
        refine xp_RD_state hX 32 rfl hr xk_RD_23 xnd_RD_end_29 ?_
        refine xf_vret hX hE xnd_RD_end_32 ?_
        first | exact absurd h1 h19 | exact absurd h19 h1 | (refine ⟨rfl, ?_⟩; simp only [xs_endR, h1, h19, if_true, if_false]; try rfl)

set_option maxRecDepth 100000 in
set_option maxHeartbeats 4000000 in
theorem xc_chk (P : xw_T) (σ τ : xf_T) (r : Nat) (hr : r < 3) (hi : ¬ σ.1 (24 + 8 * r + 6) = -1 → vp_in (σ.1 (24 + 8 * r + 6)) (xw_n P)) : xf_F (xw_l P) xny_RD_checkVersion xnc_RD_checkVersion 1 none 3 61 (xw_W P) (xw_D P) (xw_ty P) [.ref (xw_a P (18 + r))] (σ, τ) none (xs_chk (24 + 8 * r) σ, τ) := by
  refine xf_start (own := xnR_RD) [some (.ref (xw_a P (18 + r)))] rfl (by decide) (Nat.le_of_ble_eq_true rfl) rfl (xf_cat rfl) ?_
  intro X hX hE
  have h9 : r = 0 ∨ r = 1 ∨ r = 2 := by omega
  rcases h9 with rfl | rfl | rfl
  · refine xf_aload_n hX 1 rfl 0 xnd_RD_checkVersion_0 rfl rfl ?_
    refine xg_RD_store hX 4 rfl hr xk_RD_9 xnd_RD_checkVersion_1 ?_
    refine xf_aload_n hX 5 rfl 0 xnd_RD_checkVersion_4 rfl rfl ?_
    refine xg_RD_key hX 8 rfl hr xk_RD_31 xnd_RD_checkVersion_5 ?_
    refine xf_V1i hX 11 rfl (xc_versionFor P _ _ _) xq_ST_versionFor xk_RD_60 xrX_ST rfl rfl xnd_RD_checkVersion_8 ?_
    refine xf_aload_n hX 12 rfl 0 xnd_RD_checkVersion_11 rfl rfl ?_
    refine xg_RD_keptVersion hX 15 rfl hr xk_RD_65 xnd_RD_checkVersion_12 ?_
    refine xf_icmp_eq hX 18 rfl 62 xnd_RD_checkVersion_15 (by decide) (fun h15 => ?_) (fun h15 => ?_)
    · refine xf_aload_n hX 63 rfl 0 xnd_RD_checkVersion_62 rfl rfl ?_
      refine xf_aload_n hX 64 rfl 0 xnd_RD_checkVersion_63 rfl rfl ?_
      refine xg_RD_keptItem hX 67 rfl hr xk_RD_81 xnd_RD_checkVersion_64 ?_
      refine xf_iconst hX 68 rfl (-1) xnd_RD_checkVersion_67 (by decide) ?_
      refine xf_icmp_eq hX 71 rfl 89 xnd_RD_checkVersion_68 (by decide) (fun h68 => ?_) (fun h68 => ?_)
      · refine xf_iconst hX 90 rfl (0) xnd_RD_checkVersion_89 (by decide) ?_
        refine xf_V1v hX 93 rfl (xc_endR P _ _ _ hr 0 (fun h0 => absurd rfl h0)) xq_RD_end xk_RD_107 (xrX_RD hr) rfl rfl xnd_RD_checkVersion_90 ?_
        refine xf_vret hX hE xnd_RD_checkVersion_93 ?_
        refine ⟨rfl, ?_⟩
        simp only [xs_chk, xs_hit, eq_true h15, eq_true h68, if_true, if_false]
      · refine xf_aload_n hX 72 rfl 0 xnd_RD_checkVersion_71 rfl rfl ?_
        refine xg_RD_store hX 75 rfl hr xk_RD_9 xnd_RD_checkVersion_72 ?_
        refine xf_aload_n hX 76 rfl 0 xnd_RD_checkVersion_75 rfl rfl ?_
        refine xg_RD_copiedExpiry hX 79 rfl hr xk_RD_99 xnd_RD_checkVersion_76 ?_
        refine xf_V1i hX 82 rfl (xc_isOver P _ _ _) xq_ST_isOver xk_RD_103 xrX_ST rfl rfl xnd_RD_checkVersion_79 ?_
        refine xf_if_ne hX 85 rfl 89 xnd_RD_checkVersion_82 (by decide) (fun h82 => ?_) (fun h82 => ?_)
        · refine xf_iconst hX 90 rfl (0) xnd_RD_checkVersion_89 (by decide) ?_
          refine xf_V1v hX 93 rfl (xc_endR P _ _ _ hr _ (fun _ => hi h68)) xq_RD_end xk_RD_107 (xrX_RD hr) rfl rfl xnd_RD_checkVersion_90 ?_
          refine xf_vret hX hE xnd_RD_checkVersion_93 ?_
          refine ⟨rfl, ?_⟩
          simp only [xs_chk, xs_hit, eq_true h15, h68, h82, if_true, if_false]
          try rfl
        · refine xf_iconst hX 86 rfl (1) xnd_RD_checkVersion_85 (by decide) ?_
          refine xf_goto hX 90 xnd_RD_checkVersion_86 (by decide) ?_
          refine xf_V1v hX 93 rfl (xc_endR P _ _ _ hr _ (fun _ => hi h68)) xq_RD_end xk_RD_107 (xrX_RD hr) rfl rfl xnd_RD_checkVersion_90 ?_
          refine xf_vret hX hE xnd_RD_checkVersion_93 ?_
          refine ⟨rfl, ?_⟩
          simp only [xs_chk, xs_hit, eq_true h15, h68, eq_true h82, if_true, if_false]
          try rfl
    · refine xf_aload_n hX 19 rfl 0 xnd_RD_checkVersion_18 rfl rfl ?_
      refine xf_dup hX 20 rfl xnd_RD_checkVersion_19 rfl ?_
      refine xg_RD_retries hX 23 rfl hr xk_RD_34 xnd_RD_checkVersion_20 ?_
      refine xf_iconst hX 24 rfl (1) xnd_RD_checkVersion_23 (by decide) ?_
      refine xf_iadd hX 25 rfl xnd_RD_checkVersion_24 ?_
      refine xp_RD_retries hX 28 rfl hr xk_RD_34 xnd_RD_checkVersion_25 ?_
      refine xf_aload_n hX 29 rfl 0 xnd_RD_checkVersion_28 rfl rfl ?_
      refine xg_RD_tally hX 32 rfl hr xk_RD_19 xnd_RD_checkVersion_29 ?_
      refine xf_dup hX 33 rfl xnd_RD_checkVersion_32 rfl ?_
      refine xg_TA_retries hX 36 rfl xk_RD_102 xnd_RD_checkVersion_33 ?_
      refine xf_iconst hX 37 rfl (1) xnd_RD_checkVersion_36 (by decide) ?_
      refine xf_iadd hX 38 rfl xnd_RD_checkVersion_37 ?_
      refine xp_TA_retries hX 41 rfl xk_RD_102 xnd_RD_checkVersion_38 ?_
      refine xf_aload_n hX 42 rfl 0 xnd_RD_checkVersion_41 rfl rfl ?_
      refine xf_aload_n hX 43 rfl 0 xnd_RD_checkVersion_42 rfl rfl ?_
      refine xg_RD_retries hX 46 rfl hr xk_RD_34 xnd_RD_checkVersion_43 ?_
      change xf_V X 46 _ (.int (σ.1 (24 + 8 * 0 + 4) + 1) :: _) _
      refine xf_iconst hX 47 rfl (3) xnd_RD_checkVersion_46 (by decide) ?_
      refine xf_icmp_lt hX 50 rfl 55 xnd_RD_checkVersion_47 (by decide) (fun h47 => ?_) (fun h47 => ?_)
      · refine xf_iconst hX 56 rfl (1) xnd_RD_checkVersion_55 (by decide) ?_
        refine xp_RD_state hX 59 rfl hr xk_RD_23 xnd_RD_checkVersion_56 ?_
        refine xf_goto hX 93 xnd_RD_checkVersion_59 (by decide) ?_
        refine xf_vret hX hE xnd_RD_checkVersion_93 ?_
        refine ⟨rfl, ?_⟩
        simp only [xs_chk, xs_hit, h15, h47, if_true, if_false]
        try rfl
      · refine xf_bipush hX 52 rfl (6) xnd_RD_checkVersion_50 (by decide) ?_
        refine xf_goto hX 56 xnd_RD_checkVersion_52 (by decide) ?_
        refine xp_RD_state hX 59 rfl hr xk_RD_23 xnd_RD_checkVersion_56 ?_
        refine xf_goto hX 93 xnd_RD_checkVersion_59 (by decide) ?_
        refine xf_vret hX hE xnd_RD_checkVersion_93 ?_
        refine ⟨rfl, ?_⟩
        simp only [xs_chk, xs_hit, h15, h47, if_true, if_false]
        try rfl
  · refine xf_aload_n hX 1 rfl 0 xnd_RD_checkVersion_0 rfl rfl ?_
    refine xg_RD_store hX 4 rfl hr xk_RD_9 xnd_RD_checkVersion_1 ?_
    refine xf_aload_n hX 5 rfl 0 xnd_RD_checkVersion_4 rfl rfl ?_
    refine xg_RD_key hX 8 rfl hr xk_RD_31 xnd_RD_checkVersion_5 ?_
    refine xf_V1i hX 11 rfl (xc_versionFor P _ _ _) xq_ST_versionFor xk_RD_60 xrX_ST rfl rfl xnd_RD_checkVersion_8 ?_
    refine xf_aload_n hX 12 rfl 0 xnd_RD_checkVersion_11 rfl rfl ?_
    refine xg_RD_keptVersion hX 15 rfl hr xk_RD_65 xnd_RD_checkVersion_12 ?_
    refine xf_icmp_eq hX 18 rfl 62 xnd_RD_checkVersion_15 (by decide) (fun h15 => ?_) (fun h15 => ?_)
    · refine xf_aload_n hX 63 rfl 0 xnd_RD_checkVersion_62 rfl rfl ?_
      refine xf_aload_n hX 64 rfl 0 xnd_RD_checkVersion_63 rfl rfl ?_
      refine xg_RD_keptItem hX 67 rfl hr xk_RD_81 xnd_RD_checkVersion_64 ?_
      refine xf_iconst hX 68 rfl (-1) xnd_RD_checkVersion_67 (by decide) ?_
      refine xf_icmp_eq hX 71 rfl 89 xnd_RD_checkVersion_68 (by decide) (fun h68 => ?_) (fun h68 => ?_)
      · refine xf_iconst hX 90 rfl (0) xnd_RD_checkVersion_89 (by decide) ?_
        refine xf_V1v hX 93 rfl (xc_endR P _ _ _ hr 0 (fun h0 => absurd rfl h0)) xq_RD_end xk_RD_107 (xrX_RD hr) rfl rfl xnd_RD_checkVersion_90 ?_
        refine xf_vret hX hE xnd_RD_checkVersion_93 ?_
        refine ⟨rfl, ?_⟩
        simp only [xs_chk, xs_hit, eq_true h15, eq_true h68, if_true, if_false]
      · refine xf_aload_n hX 72 rfl 0 xnd_RD_checkVersion_71 rfl rfl ?_
        refine xg_RD_store hX 75 rfl hr xk_RD_9 xnd_RD_checkVersion_72 ?_
        refine xf_aload_n hX 76 rfl 0 xnd_RD_checkVersion_75 rfl rfl ?_
        refine xg_RD_copiedExpiry hX 79 rfl hr xk_RD_99 xnd_RD_checkVersion_76 ?_
        refine xf_V1i hX 82 rfl (xc_isOver P _ _ _) xq_ST_isOver xk_RD_103 xrX_ST rfl rfl xnd_RD_checkVersion_79 ?_
        refine xf_if_ne hX 85 rfl 89 xnd_RD_checkVersion_82 (by decide) (fun h82 => ?_) (fun h82 => ?_)
        · refine xf_iconst hX 90 rfl (0) xnd_RD_checkVersion_89 (by decide) ?_
          refine xf_V1v hX 93 rfl (xc_endR P _ _ _ hr _ (fun _ => hi h68)) xq_RD_end xk_RD_107 (xrX_RD hr) rfl rfl xnd_RD_checkVersion_90 ?_
          refine xf_vret hX hE xnd_RD_checkVersion_93 ?_
          refine ⟨rfl, ?_⟩
          simp only [xs_chk, xs_hit, eq_true h15, h68, h82, if_true, if_false]
          try rfl
        · refine xf_iconst hX 86 rfl (1) xnd_RD_checkVersion_85 (by decide) ?_
          refine xf_goto hX 90 xnd_RD_checkVersion_86 (by decide) ?_
          refine xf_V1v hX 93 rfl (xc_endR P _ _ _ hr _ (fun _ => hi h68)) xq_RD_end xk_RD_107 (xrX_RD hr) rfl rfl xnd_RD_checkVersion_90 ?_
          refine xf_vret hX hE xnd_RD_checkVersion_93 ?_
          refine ⟨rfl, ?_⟩
          simp only [xs_chk, xs_hit, eq_true h15, h68, eq_true h82, if_true, if_false]
          try rfl
    · refine xf_aload_n hX 19 rfl 0 xnd_RD_checkVersion_18 rfl rfl ?_
      refine xf_dup hX 20 rfl xnd_RD_checkVersion_19 rfl ?_
      refine xg_RD_retries hX 23 rfl hr xk_RD_34 xnd_RD_checkVersion_20 ?_
      refine xf_iconst hX 24 rfl (1) xnd_RD_checkVersion_23 (by decide) ?_
      refine xf_iadd hX 25 rfl xnd_RD_checkVersion_24 ?_
      refine xp_RD_retries hX 28 rfl hr xk_RD_34 xnd_RD_checkVersion_25 ?_
      refine xf_aload_n hX 29 rfl 0 xnd_RD_checkVersion_28 rfl rfl ?_
      refine xg_RD_tally hX 32 rfl hr xk_RD_19 xnd_RD_checkVersion_29 ?_
      refine xf_dup hX 33 rfl xnd_RD_checkVersion_32 rfl ?_
      refine xg_TA_retries hX 36 rfl xk_RD_102 xnd_RD_checkVersion_33 ?_
      refine xf_iconst hX 37 rfl (1) xnd_RD_checkVersion_36 (by decide) ?_
      refine xf_iadd hX 38 rfl xnd_RD_checkVersion_37 ?_
      refine xp_TA_retries hX 41 rfl xk_RD_102 xnd_RD_checkVersion_38 ?_
      refine xf_aload_n hX 42 rfl 0 xnd_RD_checkVersion_41 rfl rfl ?_
      refine xf_aload_n hX 43 rfl 0 xnd_RD_checkVersion_42 rfl rfl ?_
      refine xg_RD_retries hX 46 rfl hr xk_RD_34 xnd_RD_checkVersion_43 ?_
      change xf_V X 46 _ (.int (σ.1 (24 + 8 * 1 + 4) + 1) :: _) _
      refine xf_iconst hX 47 rfl (3) xnd_RD_checkVersion_46 (by decide) ?_
      refine xf_icmp_lt hX 50 rfl 55 xnd_RD_checkVersion_47 (by decide) (fun h47 => ?_) (fun h47 => ?_)
      · refine xf_iconst hX 56 rfl (1) xnd_RD_checkVersion_55 (by decide) ?_
        refine xp_RD_state hX 59 rfl hr xk_RD_23 xnd_RD_checkVersion_56 ?_
        refine xf_goto hX 93 xnd_RD_checkVersion_59 (by decide) ?_
        refine xf_vret hX hE xnd_RD_checkVersion_93 ?_
        refine ⟨rfl, ?_⟩
        simp only [xs_chk, xs_hit, h15, h47, if_true, if_false]
        try rfl
      · refine xf_bipush hX 52 rfl (6) xnd_RD_checkVersion_50 (by decide) ?_
        refine xf_goto hX 56 xnd_RD_checkVersion_52 (by decide) ?_
        refine xp_RD_state hX 59 rfl hr xk_RD_23 xnd_RD_checkVersion_56 ?_
        refine xf_goto hX 93 xnd_RD_checkVersion_59 (by decide) ?_
        refine xf_vret hX hE xnd_RD_checkVersion_93 ?_
        refine ⟨rfl, ?_⟩
        simp only [xs_chk, xs_hit, h15, h47, if_true, if_false]
        try rfl
  · refine xf_aload_n hX 1 rfl 0 xnd_RD_checkVersion_0 rfl rfl ?_
    refine xg_RD_store hX 4 rfl hr xk_RD_9 xnd_RD_checkVersion_1 ?_
    refine xf_aload_n hX 5 rfl 0 xnd_RD_checkVersion_4 rfl rfl ?_
    refine xg_RD_key hX 8 rfl hr xk_RD_31 xnd_RD_checkVersion_5 ?_
    refine xf_V1i hX 11 rfl (xc_versionFor P _ _ _) xq_ST_versionFor xk_RD_60 xrX_ST rfl rfl xnd_RD_checkVersion_8 ?_
    refine xf_aload_n hX 12 rfl 0 xnd_RD_checkVersion_11 rfl rfl ?_
    refine xg_RD_keptVersion hX 15 rfl hr xk_RD_65 xnd_RD_checkVersion_12 ?_
    refine xf_icmp_eq hX 18 rfl 62 xnd_RD_checkVersion_15 (by decide) (fun h15 => ?_) (fun h15 => ?_)
    · refine xf_aload_n hX 63 rfl 0 xnd_RD_checkVersion_62 rfl rfl ?_
      refine xf_aload_n hX 64 rfl 0 xnd_RD_checkVersion_63 rfl rfl ?_
      refine xg_RD_keptItem hX 67 rfl hr xk_RD_81 xnd_RD_checkVersion_64 ?_
      refine xf_iconst hX 68 rfl (-1) xnd_RD_checkVersion_67 (by decide) ?_
      refine xf_icmp_eq hX 71 rfl 89 xnd_RD_checkVersion_68 (by decide) (fun h68 => ?_) (fun h68 => ?_)
      · refine xf_iconst hX 90 rfl (0) xnd_RD_checkVersion_89 (by decide) ?_
        refine xf_V1v hX 93 rfl (xc_endR P _ _ _ hr 0 (fun h0 => absurd rfl h0)) xq_RD_end xk_RD_107 (xrX_RD hr) rfl rfl xnd_RD_checkVersion_90 ?_
        refine xf_vret hX hE xnd_RD_checkVersion_93 ?_
        refine ⟨rfl, ?_⟩
        simp only [xs_chk, xs_hit, eq_true h15, eq_true h68, if_true, if_false]
      · refine xf_aload_n hX 72 rfl 0 xnd_RD_checkVersion_71 rfl rfl ?_
        refine xg_RD_store hX 75 rfl hr xk_RD_9 xnd_RD_checkVersion_72 ?_
        refine xf_aload_n hX 76 rfl 0 xnd_RD_checkVersion_75 rfl rfl ?_
        refine xg_RD_copiedExpiry hX 79 rfl hr xk_RD_99 xnd_RD_checkVersion_76 ?_
        refine xf_V1i hX 82 rfl (xc_isOver P _ _ _) xq_ST_isOver xk_RD_103 xrX_ST rfl rfl xnd_RD_checkVersion_79 ?_
        refine xf_if_ne hX 85 rfl 89 xnd_RD_checkVersion_82 (by decide) (fun h82 => ?_) (fun h82 => ?_)
        · refine xf_iconst hX 90 rfl (0) xnd_RD_checkVersion_89 (by decide) ?_
          refine xf_V1v hX 93 rfl (xc_endR P _ _ _ hr _ (fun _ => hi h68)) xq_RD_end xk_RD_107 (xrX_RD hr) rfl rfl xnd_RD_checkVersion_90 ?_
          refine xf_vret hX hE xnd_RD_checkVersion_93 ?_
          refine ⟨rfl, ?_⟩
          simp only [xs_chk, xs_hit, eq_true h15, h68, h82, if_true, if_false]
          try rfl
        · refine xf_iconst hX 86 rfl (1) xnd_RD_checkVersion_85 (by decide) ?_
          refine xf_goto hX 90 xnd_RD_checkVersion_86 (by decide) ?_
          refine xf_V1v hX 93 rfl (xc_endR P _ _ _ hr _ (fun _ => hi h68)) xq_RD_end xk_RD_107 (xrX_RD hr) rfl rfl xnd_RD_checkVersion_90 ?_
          refine xf_vret hX hE xnd_RD_checkVersion_93 ?_
          refine ⟨rfl, ?_⟩
          simp only [xs_chk, xs_hit, eq_true h15, h68, eq_true h82, if_true, if_false]
          try rfl
    · refine xf_aload_n hX 19 rfl 0 xnd_RD_checkVersion_18 rfl rfl ?_
      refine xf_dup hX 20 rfl xnd_RD_checkVersion_19 rfl ?_
      refine xg_RD_retries hX 23 rfl hr xk_RD_34 xnd_RD_checkVersion_20 ?_
      refine xf_iconst hX 24 rfl (1) xnd_RD_checkVersion_23 (by decide) ?_
      refine xf_iadd hX 25 rfl xnd_RD_checkVersion_24 ?_
      refine xp_RD_retries hX 28 rfl hr xk_RD_34 xnd_RD_checkVersion_25 ?_
      refine xf_aload_n hX 29 rfl 0 xnd_RD_checkVersion_28 rfl rfl ?_
      refine xg_RD_tally hX 32 rfl hr xk_RD_19 xnd_RD_checkVersion_29 ?_
      refine xf_dup hX 33 rfl xnd_RD_checkVersion_32 rfl ?_
      refine xg_TA_retries hX 36 rfl xk_RD_102 xnd_RD_checkVersion_33 ?_
      refine xf_iconst hX 37 rfl (1) xnd_RD_checkVersion_36 (by decide) ?_
      refine xf_iadd hX 38 rfl xnd_RD_checkVersion_37 ?_
      refine xp_TA_retries hX 41 rfl xk_RD_102 xnd_RD_checkVersion_38 ?_
      refine xf_aload_n hX 42 rfl 0 xnd_RD_checkVersion_41 rfl rfl ?_
      refine xf_aload_n hX 43 rfl 0 xnd_RD_checkVersion_42 rfl rfl ?_
      refine xg_RD_retries hX 46 rfl hr xk_RD_34 xnd_RD_checkVersion_43 ?_
      change xf_V X 46 _ (.int (σ.1 (24 + 8 * 2 + 4) + 1) :: _) _
      refine xf_iconst hX 47 rfl (3) xnd_RD_checkVersion_46 (by decide) ?_
      refine xf_icmp_lt hX 50 rfl 55 xnd_RD_checkVersion_47 (by decide) (fun h47 => ?_) (fun h47 => ?_)
      · refine xf_iconst hX 56 rfl (1) xnd_RD_checkVersion_55 (by decide) ?_
        refine xp_RD_state hX 59 rfl hr xk_RD_23 xnd_RD_checkVersion_56 ?_
        refine xf_goto hX 93 xnd_RD_checkVersion_59 (by decide) ?_
        refine xf_vret hX hE xnd_RD_checkVersion_93 ?_
        refine ⟨rfl, ?_⟩
        simp only [xs_chk, xs_hit, h15, h47, if_true, if_false]
        try rfl
      · refine xf_bipush hX 52 rfl (6) xnd_RD_checkVersion_50 (by decide) ?_
        refine xf_goto hX 56 xnd_RD_checkVersion_52 (by decide) ?_
        refine xp_RD_state hX 59 rfl hr xk_RD_23 xnd_RD_checkVersion_56 ?_
        refine xf_goto hX 93 xnd_RD_checkVersion_59 (by decide) ?_
        refine xf_vret hX hE xnd_RD_checkVersion_93 ?_
        refine ⟨rfl, ?_⟩
        simp only [xs_chk, xs_hit, h15, h47, if_true, if_false]
        try rfl

