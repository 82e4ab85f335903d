/-! Contracts of the class: the readers' steps, and the face. Laid by wip/gen/class9.py. -/
theorem xs_rd3 {r : Int32} (h : ¬ xs_isW r 0 2 = 0) : vp_in r 3 ∧ r.toNatClampNeg < 3 := by
  unfold xs_isW at h
  by_cases h1 : r < 0
  · rw [if_pos h1] at h; exact absurd rfl h
  · rw [if_neg h1] at h
    by_cases h2 : 2 < r
    · rw [if_pos h2] at h; exact absurd rfl h
    · obtain ⟨j, hj, rfl⟩ := nI_of h1
      have : j ≤ 2 := by
        rw [show (2 : Int32) = nI 2 from rfl, nI_ltI (by omega) hj] at h2
        omega
      exact ⟨vp_in_nI (by omega) (by omega), by rw [nI_clamp hj]; omega⟩
set_option maxRecDepth 100000 in
set_option maxHeartbeats 4000000 in
theorem xc_lck (P : xw_T) (σ τ : xf_T) (r : Nat) (hr : r < 3) (ho : xs_okP (xw_n P) (xw_w P) σ) : xf_F (xw_l P) xny_RD_readLocked xnc_RD_readLocked 2 none 5 103 (xw_W P) (xw_D P) (xw_ty P) [.ref (xw_a P (18 + r))] (σ, τ) none (xs_lck (xw_w P) (24 + 8 * r) σ, τ) := by
  refine xf_start (own := xnR_RD) [some (.ref (xw_a P (18 + r))), none] rfl (by decide) (Nat.le_of_ble_eq_true rfl) rfl (xf_cat rfl) ?_
  intro X hX hE
  have h9 : r = 0 ∨ r = 1 ∨ r = 2 := by omega
  rcases h9 with rfl | rfl | rfl
  · have hw := ho.2
    by_cases hu : σ.1 9 = 0
    · have hu1 : xs_uw σ = 1 := by unfold xs_uw; rw [if_pos hu]
      refine xf_aload_n hX 1 rfl 0 xnd_RD_readLocked_0 rfl rfl ?_
      refine xg_RD_writer hX 4 rfl hr xk_RD_15 xnd_RD_readLocked_1 ?_
      refine xf_V0i hX 7 rfl (xc_uw P _ _) xq_WR_isUnderWay xk_RD_111 xrX_WR rfl rfl xnd_RD_readLocked_4 ?_
      rw [hu1]
      refine xf_if_eq hX 10 rfl 24 xnd_RD_readLocked_7 (by decide) (fun h7 => absurd h7 (by decide)) (fun _ => ?_)
      refine xf_aload_n hX 11 rfl 0 xnd_RD_readLocked_10 rfl rfl ?_
      refine xg_RD_tally hX 14 rfl hr xk_RD_19 xnd_RD_readLocked_11 ?_
      refine xf_dup hX 15 rfl xnd_RD_readLocked_14 rfl ?_
      refine xg_TA_waits hX 18 rfl xk_RD_68 xnd_RD_readLocked_15 ?_
      refine xf_iconst hX 19 rfl (1) xnd_RD_readLocked_18 (by decide) ?_
      refine xf_iadd hX 20 rfl xnd_RD_readLocked_19 ?_
      refine xp_TA_waits hX 23 rfl xk_RD_68 xnd_RD_readLocked_20 ?_
      refine xf_vret hX hE xnd_RD_readLocked_23 ?_
      refine ⟨rfl, ?_⟩
      simp only [xs_lck, eq_true hu, if_true]
    · have hu0 : xs_uw σ = 0 := by unfold xs_uw; rw [if_neg hu]
      have hs2 := xs_lk_2 (xw_w P) σ (σ.1 (24 + 8 * 0 + 3))
      have hfd := ho.find (σ.1 (24 + 8 * 0 + 3))
      have hfv := ho.fnd (σ.1 (24 + 8 * 0 + 3))
      have hfe : (if xs_find (xw_w P) σ (σ.1 (24 + 8 * 0 + 3)) = -1 then -1 else σ.2 5 (xs_find (xw_w P) σ (σ.1 (24 + 8 * 0 + 3))).toNatClampNeg) = xs_fnd (xw_w P) σ (σ.1 (24 + 8 * 0 + 3)) := rfl
      have hFin : (if xs_fnd (xw_w P) σ (σ.1 (24 + 8 * 0 + 3)) = -1 then xs_endR (24 + 8 * 0) (xs_lck1 (xw_w P) (24 + 8 * 0) σ) (xs_hit (24 + 8 * 0) (xs_lck1 (xw_w P) (24 + 8 * 0) σ)) else xs_endR (24 + 8 * 0) (xs_copy (24 + 8 * 0) (xs_lck1 (xw_w P) (24 + 8 * 0) σ)) (xs_hit (24 + 8 * 0) (xs_copy (24 + 8 * 0) (xs_lck1 (xw_w P) (24 + 8 * 0) σ)))) = xs_lck (xw_w P) (24 + 8 * 0) σ := by unfold xs_lck; rw [if_neg hu]
      have hl1 : xs_lck1 (xw_w P) (24 + 8 * 0) σ = xf_I (xs_lk (xw_w P) σ (σ.1 (24 + 8 * 0 + 3))) (24 + 8 * 0 + 6) (xs_fnd (xw_w P) σ (σ.1 (24 + 8 * 0 + 3))) := rfl
      rw [hl1] at hFin
      generalize hs : xs_lk (xw_w P) σ (σ.1 (24 + 8 * 0 + 3)) = σ' at hs2 hFin
      generalize hF : xs_find (xw_w P) σ (σ.1 (24 + 8 * 0 + 3)) = F at hfd hfe
      generalize xs_fnd (xw_w P) σ (σ.1 (24 + 8 * 0 + 3)) = f0 at hFin hfv hfe
      generalize xs_lck (xw_w P) (24 + 8 * 0) σ = FIN at hE hFin
      have hfi : ¬ f0 = -1 → vp_in f0 (xw_n P) := fun h0 => hfv.resolve_left h0
      have hFi : ¬ F = -1 → vp_in F (8 * (xw_w P)) := by
        intro h9
        rcases hfd with g | ⟨q, g1, g2, -⟩
        · exact absurd g h9
        · exact xs_in g2 g1 (by omega)
      have K2 : ∀ s, s.1 (24 + 8 * 0 + 6) = f0 → xs_endR (24 + 8 * 0) s (xs_hit (24 + 8 * 0) s) = FIN → xf_V X 70 [some (.ref (xw_a P (18 + 0))), some (.int F)] [] (s, τ) := by
        intro s hs6 hfin
        refine xf_aload_n hX 71 rfl 0 xnd_RD_readLocked_70 rfl rfl ?_
        refine xf_aload_n hX 72 rfl 0 xnd_RD_readLocked_71 rfl rfl ?_
        refine xg_RD_keptItem hX 75 rfl hr xk_RD_81 xnd_RD_readLocked_72 ?_
        rw [hs6]
        refine xf_iconst hX 76 rfl (-1) xnd_RD_readLocked_75 (by decide) ?_
        refine xf_icmp_eq hX 79 rfl 97 xnd_RD_readLocked_76 (by decide) (fun h76 => ?_) (fun h76 => ?_)
        · refine xf_iconst hX 98 rfl (0) xnd_RD_readLocked_97 (by decide) ?_
          refine xf_V1v hX 101 rfl (xc_endR P _ _ _ hr 0 (fun h0 => absurd rfl h0)) xq_RD_end xk_RD_107 (xrX_RD hr) rfl rfl xnd_RD_readLocked_98 ?_
          refine xf_vret hX hE xnd_RD_readLocked_101 ?_
          refine ⟨rfl, ?_⟩
          rw [← hfin]
          simp only [xs_hit, hs6, eq_true h76, if_true, if_false]
        · refine xf_aload_n hX 80 rfl 0 xnd_RD_readLocked_79 rfl rfl ?_
          refine xg_RD_store hX 83 rfl hr xk_RD_9 xnd_RD_readLocked_80 ?_
          refine xf_aload_n hX 84 rfl 0 xnd_RD_readLocked_83 rfl rfl ?_
          refine xg_RD_copiedExpiry hX 87 rfl hr xk_RD_99 xnd_RD_readLocked_84 ?_
          refine xf_V1i hX 90 rfl (xc_isOver P _ _ _) xq_ST_isOver xk_RD_103 xrX_ST rfl rfl xnd_RD_readLocked_87 ?_
          refine xf_if_ne hX 93 rfl 97 xnd_RD_readLocked_90 (by decide) (fun h90 => ?_) (fun h90 => ?_)
          · refine xf_iconst hX 98 rfl (0) xnd_RD_readLocked_97 (by decide) ?_
            refine xf_V1v hX 101 rfl (xc_endR P _ _ _ hr _ (fun _ => by rw [hs6]; exact hfi h76)) xq_RD_end xk_RD_107 (xrX_RD hr) rfl rfl xnd_RD_readLocked_98 ?_
            refine xf_vret hX hE xnd_RD_readLocked_101 ?_
            refine ⟨rfl, ?_⟩
            rw [← hfin]
            simp only [xs_hit, hs6, h76, h90, if_true, if_false]
          · refine xf_iconst hX 94 rfl (1) xnd_RD_readLocked_93 (by decide) ?_
            refine xf_goto hX 98 xnd_RD_readLocked_94 (by decide) ?_
            refine xf_V1v hX 101 rfl (xc_endR P _ _ _ hr _ (fun _ => by rw [hs6]; exact hfi h76)) xq_RD_end xk_RD_107 (xrX_RD hr) rfl rfl xnd_RD_readLocked_98 ?_
            refine xf_vret hX hE xnd_RD_readLocked_101 ?_
            refine ⟨rfl, ?_⟩
            rw [← hfin]
            simp only [xs_hit, hs6, h76, eq_true h90, if_true, if_false]
      have K : ∀ f, f = f0 → xf_V X 55 [some (.ref (xw_a P (18 + 0))), some (.int F)] [.int f, .ref (xw_a P (18 + 0))] (σ', τ) := by
        intro f hf0
        subst hf0
        refine xp_RD_keptItem hX 58 rfl hr xk_RD_81 xnd_RD_readLocked_55 ?_
        refine xf_aload_n hX 59 rfl 0 xnd_RD_readLocked_58 rfl rfl ?_
        refine xg_RD_keptItem hX 62 rfl hr xk_RD_81 xnd_RD_readLocked_59 ?_
        change xf_V X 62 _ [.int f] _
        refine xf_iconst hX 63 rfl (-1) xnd_RD_readLocked_62 (by decide) ?_
        refine xf_icmp_eq hX 66 rfl 70 xnd_RD_readLocked_63 (by decide) (fun h63 => ?_) (fun h63 => ?_)
        · exact K2 _ rfl (by rw [← hFin, if_pos h63])
        · refine xf_aload_n hX 67 rfl 0 xnd_RD_readLocked_66 rfl rfl ?_
          refine xf_V0v hX 70 rfl (xc_copy P _ _ _ hr (hfi h63)) xq_RD_copyItem xk_RD_51 (xrX_RD hr) rfl rfl xnd_RD_readLocked_67 ?_
          exact K2 _ rfl (by rw [← hFin, if_neg h63])
      refine xf_aload_n hX 1 rfl 0 xnd_RD_readLocked_0 rfl rfl ?_
      refine xg_RD_writer hX 4 rfl hr xk_RD_15 xnd_RD_readLocked_1 ?_
      refine xf_V0i hX 7 rfl (xc_uw P _ _) xq_WR_isUnderWay xk_RD_111 xrX_WR rfl rfl xnd_RD_readLocked_4 ?_
      rw [hu0]
      refine xf_if_eq hX 10 rfl 24 xnd_RD_readLocked_7 (by decide) (fun _ => ?_) (fun h7 => absurd rfl h7)
      refine xf_aload_n hX 25 rfl 0 xnd_RD_readLocked_24 rfl rfl ?_
      refine xg_RD_store hX 28 rfl hr xk_RD_9 xnd_RD_readLocked_25 ?_
      refine xf_aload_n hX 29 rfl 0 xnd_RD_readLocked_28 rfl rfl ?_
      refine xg_RD_key hX 32 rfl hr xk_RD_31 xnd_RD_readLocked_29 ?_
      refine xf_V1i hX 35 rfl (xc_lk P _ _ _ ho) xq_ST_lookUp xk_RD_117 xrX_ST rfl rfl xnd_RD_readLocked_32 ?_
      rw [hs, hF]
      refine xf_istore_n hX 36 rfl 1 xnd_RD_readLocked_35 rfl (by decide) ?_
      dsimp only [List.set]
      refine xf_aload_n hX 37 rfl 0 xnd_RD_readLocked_36 rfl rfl ?_
      refine xf_iload_n hX 38 rfl 1 xnd_RD_readLocked_37 rfl rfl ?_
      refine xf_iconst hX 39 rfl (-1) xnd_RD_readLocked_38 (by decide) ?_
      refine xf_icmp_eq hX 42 rfl 54 xnd_RD_readLocked_39 (by decide) (fun h39 => ?_) (fun h39 => ?_)
      · refine xf_iconst hX 55 rfl (-1) xnd_RD_readLocked_54 (by decide) ?_
        exact K _ (by rw [← hfe, if_pos h39])
      · refine xf_aload_n hX 43 rfl 0 xnd_RD_readLocked_42 rfl rfl ?_
        refine xg_RD_store hX 46 rfl hr xk_RD_9 xnd_RD_readLocked_43 ?_
        refine xg_ST_places hX 49 rfl xk_RD_77 xnd_RD_readLocked_46 ?_
        refine xf_iload_n hX 50 rfl 1 xnd_RD_readLocked_49 rfl rfl ?_
        refine xaX_iaload hX 51 rfl rfl (hFi h39) xnd_RD_readLocked_50 ?_
        rw [hs2]
        refine xf_goto hX 55 xnd_RD_readLocked_51 (by decide) ?_
        exact K _ (by rw [← hfe, if_neg h39])
  · have hw := ho.2
    by_cases hu : σ.1 9 = 0
    · have hu1 : xs_uw σ = 1 := by unfold xs_uw; rw [if_pos hu]
      refine xf_aload_n hX 1 rfl 0 xnd_RD_readLocked_0 rfl rfl ?_
      refine xg_RD_writer hX 4 rfl hr xk_RD_15 xnd_RD_readLocked_1 ?_
      refine xf_V0i hX 7 rfl (xc_uw P _ _) xq_WR_isUnderWay xk_RD_111 xrX_WR rfl rfl xnd_RD_readLocked_4 ?_
      rw [hu1]
      refine xf_if_eq hX 10 rfl 24 xnd_RD_readLocked_7 (by decide) (fun h7 => absurd h7 (by decide)) (fun _ => ?_)
      refine xf_aload_n hX 11 rfl 0 xnd_RD_readLocked_10 rfl rfl ?_
      refine xg_RD_tally hX 14 rfl hr xk_RD_19 xnd_RD_readLocked_11 ?_
      refine xf_dup hX 15 rfl xnd_RD_readLocked_14 rfl ?_
      refine xg_TA_waits hX 18 rfl xk_RD_68 xnd_RD_readLocked_15 ?_
      refine xf_iconst hX 19 rfl (1) xnd_RD_readLocked_18 (by decide) ?_
      refine xf_iadd hX 20 rfl xnd_RD_readLocked_19 ?_
      refine xp_TA_waits hX 23 rfl xk_RD_68 xnd_RD_readLocked_20 ?_
      refine xf_vret hX hE xnd_RD_readLocked_23 ?_
      refine ⟨rfl, ?_⟩
      simp only [xs_lck, eq_true hu, if_true]
    · have hu0 : xs_uw σ = 0 := by unfold xs_uw; rw [if_neg hu]
      have hs2 := xs_lk_2 (xw_w P) σ (σ.1 (24 + 8 * 1 + 3))
      have hfd := ho.find (σ.1 (24 + 8 * 1 + 3))
      have hfv := ho.fnd (σ.1 (24 + 8 * 1 + 3))
      have hfe : (if xs_find (xw_w P) σ (σ.1 (24 + 8 * 1 + 3)) = -1 then -1 else σ.2 5 (xs_find (xw_w P) σ (σ.1 (24 + 8 * 1 + 3))).toNatClampNeg) = xs_fnd (xw_w P) σ (σ.1 (24 + 8 * 1 + 3)) := rfl
      have hFin : (if xs_fnd (xw_w P) σ (σ.1 (24 + 8 * 1 + 3)) = -1 then xs_endR (24 + 8 * 1) (xs_lck1 (xw_w P) (24 + 8 * 1) σ) (xs_hit (24 + 8 * 1) (xs_lck1 (xw_w P) (24 + 8 * 1) σ)) else xs_endR (24 + 8 * 1) (xs_copy (24 + 8 * 1) (xs_lck1 (xw_w P) (24 + 8 * 1) σ)) (xs_hit (24 + 8 * 1) (xs_copy (24 + 8 * 1) (xs_lck1 (xw_w P) (24 + 8 * 1) σ)))) = xs_lck (xw_w P) (24 + 8 * 1) σ := by unfold xs_lck; rw [if_neg hu]
      have hl1 : xs_lck1 (xw_w P) (24 + 8 * 1) σ = xf_I (xs_lk (xw_w P) σ (σ.1 (24 + 8 * 1 + 3))) (24 + 8 * 1 + 6) (xs_fnd (xw_w P) σ (σ.1 (24 + 8 * 1 + 3))) := rfl
      rw [hl1] at hFin
      generalize hs : xs_lk (xw_w P) σ (σ.1 (24 + 8 * 1 + 3)) = σ' at hs2 hFin
      generalize hF : xs_find (xw_w P) σ (σ.1 (24 + 8 * 1 + 3)) = F at hfd hfe
      generalize xs_fnd (xw_w P) σ (σ.1 (24 + 8 * 1 + 3)) = f0 at hFin hfv hfe
      generalize xs_lck (xw_w P) (24 + 8 * 1) σ = FIN at hE hFin
      have hfi : ¬ f0 = -1 → vp_in f0 (xw_n P) := fun h0 => hfv.resolve_left h0
      have hFi : ¬ F = -1 → vp_in F (8 * (xw_w P)) := by
        intro h9
        rcases hfd with g | ⟨q, g1, g2, -⟩
        · exact absurd g h9
        · exact xs_in g2 g1 (by omega)
      have K2 : ∀ s, s.1 (24 + 8 * 1 + 6) = f0 → xs_endR (24 + 8 * 1) s (xs_hit (24 + 8 * 1) s) = FIN → xf_V X 70 [some (.ref (xw_a P (18 + 1))), some (.int F)] [] (s, τ) := by
        intro s hs6 hfin
        refine xf_aload_n hX 71 rfl 0 xnd_RD_readLocked_70 rfl rfl ?_
        refine xf_aload_n hX 72 rfl 0 xnd_RD_readLocked_71 rfl rfl ?_
        refine xg_RD_keptItem hX 75 rfl hr xk_RD_81 xnd_RD_readLocked_72 ?_
        rw [hs6]
        refine xf_iconst hX 76 rfl (-1) xnd_RD_readLocked_75 (by decide) ?_
        refine xf_icmp_eq hX 79 rfl 97 xnd_RD_readLocked_76 (by decide) (fun h76 => ?_) (fun h76 => ?_)
        · refine xf_iconst hX 98 rfl (0) xnd_RD_readLocked_97 (by decide) ?_
          refine xf_V1v hX 101 rfl (xc_endR P _ _ _ hr 0 (fun h0 => absurd rfl h0)) xq_RD_end xk_RD_107 (xrX_RD hr) rfl rfl xnd_RD_readLocked_98 ?_
          refine xf_vret hX hE xnd_RD_readLocked_101 ?_
          refine ⟨rfl, ?_⟩
          rw [← hfin]
          simp only [xs_hit, hs6, eq_true h76, if_true, if_false]
        · refine xf_aload_n hX 80 rfl 0 xnd_RD_readLocked_79 rfl rfl ?_
          refine xg_RD_store hX 83 rfl hr xk_RD_9 xnd_RD_readLocked_80 ?_
          refine xf_aload_n hX 84 rfl 0 xnd_RD_readLocked_83 rfl rfl ?_
          refine xg_RD_copiedExpiry hX 87 rfl hr xk_RD_99 xnd_RD_readLocked_84 ?_
          refine xf_V1i hX 90 rfl (xc_isOver P _ _ _) xq_ST_isOver xk_RD_103 xrX_ST rfl rfl xnd_RD_readLocked_87 ?_
          refine xf_if_ne hX 93 rfl 97 xnd_RD_readLocked_90 (by decide) (fun h90 => ?_) (fun h90 => ?_)
          · refine xf_iconst hX 98 rfl (0) xnd_RD_readLocked_97 (by decide) ?_
            refine xf_V1v hX 101 rfl (xc_endR P _ _ _ hr _ (fun _ => by rw [hs6]; exact hfi h76)) xq_RD_end xk_RD_107 (xrX_RD hr) rfl rfl xnd_RD_readLocked_98 ?_
            refine xf_vret hX hE xnd_RD_readLocked_101 ?_
            refine ⟨rfl, ?_⟩
            rw [← hfin]
            simp only [xs_hit, hs6, h76, h90, if_true, if_false]
          · refine xf_iconst hX 94 rfl (1) xnd_RD_readLocked_93 (by decide) ?_
            refine xf_goto hX 98 xnd_RD_readLocked_94 (by decide) ?_
            refine xf_V1v hX 101 rfl (xc_endR P _ _ _ hr _ (fun _ => by rw [hs6]; exact hfi h76)) xq_RD_end xk_RD_107 (xrX_RD hr) rfl rfl xnd_RD_readLocked_98 ?_
            refine xf_vret hX hE xnd_RD_readLocked_101 ?_
            refine ⟨rfl, ?_⟩
            rw [← hfin]
            simp only [xs_hit, hs6, h76, eq_true h90, if_true, if_false]
      have K : ∀ f, f = f0 → xf_V X 55 [some (.ref (xw_a P (18 + 1))), some (.int F)] [.int f, .ref (xw_a P (18 + 1))] (σ', τ) := by
        intro f hf0
        subst hf0
        refine xp_RD_keptItem hX 58 rfl hr xk_RD_81 xnd_RD_readLocked_55 ?_
        refine xf_aload_n hX 59 rfl 0 xnd_RD_readLocked_58 rfl rfl ?_
        refine xg_RD_keptItem hX 62 rfl hr xk_RD_81 xnd_RD_readLocked_59 ?_
        change xf_V X 62 _ [.int f] _
        refine xf_iconst hX 63 rfl (-1) xnd_RD_readLocked_62 (by decide) ?_
        refine xf_icmp_eq hX 66 rfl 70 xnd_RD_readLocked_63 (by decide) (fun h63 => ?_) (fun h63 => ?_)
        · exact K2 _ rfl (by rw [← hFin, if_pos h63])
        · refine xf_aload_n hX 67 rfl 0 xnd_RD_readLocked_66 rfl rfl ?_
          refine xf_V0v hX 70 rfl (xc_copy P _ _ _ hr (hfi h63)) xq_RD_copyItem xk_RD_51 (xrX_RD hr) rfl rfl xnd_RD_readLocked_67 ?_
          exact K2 _ rfl (by rw [← hFin, if_neg h63])
      refine xf_aload_n hX 1 rfl 0 xnd_RD_readLocked_0 rfl rfl ?_
      refine xg_RD_writer hX 4 rfl hr xk_RD_15 xnd_RD_readLocked_1 ?_
      refine xf_V0i hX 7 rfl (xc_uw P _ _) xq_WR_isUnderWay xk_RD_111 xrX_WR rfl rfl xnd_RD_readLocked_4 ?_
      rw [hu0]
      refine xf_if_eq hX 10 rfl 24 xnd_RD_readLocked_7 (by decide) (fun _ => ?_) (fun h7 => absurd rfl h7)
      refine xf_aload_n hX 25 rfl 0 xnd_RD_readLocked_24 rfl rfl ?_
      refine xg_RD_store hX 28 rfl hr xk_RD_9 xnd_RD_readLocked_25 ?_
      refine xf_aload_n hX 29 rfl 0 xnd_RD_readLocked_28 rfl rfl ?_
      refine xg_RD_key hX 32 rfl hr xk_RD_31 xnd_RD_readLocked_29 ?_
      refine xf_V1i hX 35 rfl (xc_lk P _ _ _ ho) xq_ST_lookUp xk_RD_117 xrX_ST rfl rfl xnd_RD_readLocked_32 ?_
      rw [hs, hF]
      refine xf_istore_n hX 36 rfl 1 xnd_RD_readLocked_35 rfl (by decide) ?_
      dsimp only [List.set]
      refine xf_aload_n hX 37 rfl 0 xnd_RD_readLocked_36 rfl rfl ?_
      refine xf_iload_n hX 38 rfl 1 xnd_RD_readLocked_37 rfl rfl ?_
      refine xf_iconst hX 39 rfl (-1) xnd_RD_readLocked_38 (by decide) ?_
      refine xf_icmp_eq hX 42 rfl 54 xnd_RD_readLocked_39 (by decide) (fun h39 => ?_) (fun h39 => ?_)
      · refine xf_iconst hX 55 rfl (-1) xnd_RD_readLocked_54 (by decide) ?_
        exact K _ (by rw [← hfe, if_pos h39])
      · refine xf_aload_n hX 43 rfl 0 xnd_RD_readLocked_42 rfl rfl ?_
        refine xg_RD_store hX 46 rfl hr xk_RD_9 xnd_RD_readLocked_43 ?_
        refine xg_ST_places hX 49 rfl xk_RD_77 xnd_RD_readLocked_46 ?_
        refine xf_iload_n hX 50 rfl 1 xnd_RD_readLocked_49 rfl rfl ?_
        refine xaX_iaload hX 51 rfl rfl (hFi h39) xnd_RD_readLocked_50 ?_
        rw [hs2]
        refine xf_goto hX 55 xnd_RD_readLocked_51 (by decide) ?_
        exact K _ (by rw [← hfe, if_neg h39])
  · have hw := ho.2
    by_cases hu : σ.1 9 = 0
    · have hu1 : xs_uw σ = 1 := by unfold xs_uw; rw [if_pos hu]
      refine xf_aload_n hX 1 rfl 0 xnd_RD_readLocked_0 rfl rfl ?_
      refine xg_RD_writer hX 4 rfl hr xk_RD_15 xnd_RD_readLocked_1 ?_
      refine xf_V0i hX 7 rfl (xc_uw P _ _) xq_WR_isUnderWay xk_RD_111 xrX_WR rfl rfl xnd_RD_readLocked_4 ?_
      rw [hu1]
      refine xf_if_eq hX 10 rfl 24 xnd_RD_readLocked_7 (by decide) (fun h7 => absurd h7 (by decide)) (fun _ => ?_)
      refine xf_aload_n hX 11 rfl 0 xnd_RD_readLocked_10 rfl rfl ?_
      refine xg_RD_tally hX 14 rfl hr xk_RD_19 xnd_RD_readLocked_11 ?_
      refine xf_dup hX 15 rfl xnd_RD_readLocked_14 rfl ?_
      refine xg_TA_waits hX 18 rfl xk_RD_68 xnd_RD_readLocked_15 ?_
      refine xf_iconst hX 19 rfl (1) xnd_RD_readLocked_18 (by decide) ?_
      refine xf_iadd hX 20 rfl xnd_RD_readLocked_19 ?_
      refine xp_TA_waits hX 23 rfl xk_RD_68 xnd_RD_readLocked_20 ?_
      refine xf_vret hX hE xnd_RD_readLocked_23 ?_
      refine ⟨rfl, ?_⟩
      simp only [xs_lck, eq_true hu, if_true]
    · have hu0 : xs_uw σ = 0 := by unfold xs_uw; rw [if_neg hu]
      have hs2 := xs_lk_2 (xw_w P) σ (σ.1 (24 + 8 * 2 + 3))
      have hfd := ho.find (σ.1 (24 + 8 * 2 + 3))
      have hfv := ho.fnd (σ.1 (24 + 8 * 2 + 3))
      have hfe : (if xs_find (xw_w P) σ (σ.1 (24 + 8 * 2 + 3)) = -1 then -1 else σ.2 5 (xs_find (xw_w P) σ (σ.1 (24 + 8 * 2 + 3))).toNatClampNeg) = xs_fnd (xw_w P) σ (σ.1 (24 + 8 * 2 + 3)) := rfl
      have hFin : (if xs_fnd (xw_w P) σ (σ.1 (24 + 8 * 2 + 3)) = -1 then xs_endR (24 + 8 * 2) (xs_lck1 (xw_w P) (24 + 8 * 2) σ) (xs_hit (24 + 8 * 2) (xs_lck1 (xw_w P) (24 + 8 * 2) σ)) else xs_endR (24 + 8 * 2) (xs_copy (24 + 8 * 2) (xs_lck1 (xw_w P) (24 + 8 * 2) σ)) (xs_hit (24 + 8 * 2) (xs_copy (24 + 8 * 2) (xs_lck1 (xw_w P) (24 + 8 * 2) σ)))) = xs_lck (xw_w P) (24 + 8 * 2) σ := by unfold xs_lck; rw [if_neg hu]
      have hl1 : xs_lck1 (xw_w P) (24 + 8 * 2) σ = xf_I (xs_lk (xw_w P) σ (σ.1 (24 + 8 * 2 + 3))) (24 + 8 * 2 + 6) (xs_fnd (xw_w P) σ (σ.1 (24 + 8 * 2 + 3))) := rfl
      rw [hl1] at hFin
      generalize hs : xs_lk (xw_w P) σ (σ.1 (24 + 8 * 2 + 3)) = σ' at hs2 hFin
      generalize hF : xs_find (xw_w P) σ (σ.1 (24 + 8 * 2 + 3)) = F at hfd hfe
      generalize xs_fnd (xw_w P) σ (σ.1 (24 + 8 * 2 + 3)) = f0 at hFin hfv hfe
      generalize xs_lck (xw_w P) (24 + 8 * 2) σ = FIN at hE hFin
      have hfi : ¬ f0 = -1 → vp_in f0 (xw_n P) := fun h0 => hfv.resolve_left h0
      have hFi : ¬ F = -1 → vp_in F (8 * (xw_w P)) := by
        intro h9
        rcases hfd with g | ⟨q, g1, g2, -⟩
        · exact absurd g h9
        · exact xs_in g2 g1 (by omega)
      have K2 : ∀ s, s.1 (24 + 8 * 2 + 6) = f0 → xs_endR (24 + 8 * 2) s (xs_hit (24 + 8 * 2) s) = FIN → xf_V X 70 [some (.ref (xw_a P (18 + 2))), some (.int F)] [] (s, τ) := by
        intro s hs6 hfin
        refine xf_aload_n hX 71 rfl 0 xnd_RD_readLocked_70 rfl rfl ?_
        refine xf_aload_n hX 72 rfl 0 xnd_RD_readLocked_71 rfl rfl ?_
        refine xg_RD_keptItem hX 75 rfl hr xk_RD_81 xnd_RD_readLocked_72 ?_
        rw [hs6]
        refine xf_iconst hX 76 rfl (-1) xnd_RD_readLocked_75 (by decide) ?_
        refine xf_icmp_eq hX 79 rfl 97 xnd_RD_readLocked_76 (by decide) (fun h76 => ?_) (fun h76 => ?_)
        · refine xf_iconst hX 98 rfl (0) xnd_RD_readLocked_97 (by decide) ?_
          refine xf_V1v hX 101 rfl (xc_endR P _ _ _ hr 0 (fun h0 => absurd rfl h0)) xq_RD_end xk_RD_107 (xrX_RD hr) rfl rfl xnd_RD_readLocked_98 ?_
          refine xf_vret hX hE xnd_RD_readLocked_101 ?_
          refine ⟨rfl, ?_⟩
          rw [← hfin]
          simp only [xs_hit, hs6, eq_true h76, if_true, if_false]
        · refine xf_aload_n hX 80 rfl 0 xnd_RD_readLocked_79 rfl rfl ?_
          refine xg_RD_store hX 83 rfl hr xk_RD_9 xnd_RD_readLocked_80 ?_
          refine xf_aload_n hX 84 rfl 0 xnd_RD_readLocked_83 rfl rfl ?_
          refine xg_RD_copiedExpiry hX 87 rfl hr xk_RD_99 xnd_RD_readLocked_84 ?_
          refine xf_V1i hX 90 rfl (xc_isOver P _ _ _) xq_ST_isOver xk_RD_103 xrX_ST rfl rfl xnd_RD_readLocked_87 ?_
          refine xf_if_ne hX 93 rfl 97 xnd_RD_readLocked_90 (by decide) (fun h90 => ?_) (fun h90 => ?_)
          · refine xf_iconst hX 98 rfl (0) xnd_RD_readLocked_97 (by decide) ?_
            refine xf_V1v hX 101 rfl (xc_endR P _ _ _ hr _ (fun _ => by rw [hs6]; exact hfi h76)) xq_RD_end xk_RD_107 (xrX_RD hr) rfl rfl xnd_RD_readLocked_98 ?_
            refine xf_vret hX hE xnd_RD_readLocked_101 ?_
            refine ⟨rfl, ?_⟩
            rw [← hfin]
            simp only [xs_hit, hs6, h76, h90, if_true, if_false]
          · refine xf_iconst hX 94 rfl (1) xnd_RD_readLocked_93 (by decide) ?_
            refine xf_goto hX 98 xnd_RD_readLocked_94 (by decide) ?_
            refine xf_V1v hX 101 rfl (xc_endR P _ _ _ hr _ (fun _ => by rw [hs6]; exact hfi h76)) xq_RD_end xk_RD_107 (xrX_RD hr) rfl rfl xnd_RD_readLocked_98 ?_
            refine xf_vret hX hE xnd_RD_readLocked_101 ?_
            refine ⟨rfl, ?_⟩
            rw [← hfin]
            simp only [xs_hit, hs6, h76, eq_true h90, if_true, if_false]
      have K : ∀ f, f = f0 → xf_V X 55 [some (.ref (xw_a P (18 + 2))), some (.int F)] [.int f, .ref (xw_a P (18 + 2))] (σ', τ) := by
        intro f hf0
        subst hf0
        refine xp_RD_keptItem hX 58 rfl hr xk_RD_81 xnd_RD_readLocked_55 ?_
        refine xf_aload_n hX 59 rfl 0 xnd_RD_readLocked_58 rfl rfl ?_
        refine xg_RD_keptItem hX 62 rfl hr xk_RD_81 xnd_RD_readLocked_59 ?_
        change xf_V X 62 _ [.int f] _
        refine xf_iconst hX 63 rfl (-1) xnd_RD_readLocked_62 (by decide) ?_
        refine xf_icmp_eq hX 66 rfl 70 xnd_RD_readLocked_63 (by decide) (fun h63 => ?_) (fun h63 => ?_)
        · exact K2 _ rfl (by rw [← hFin, if_pos h63])
        · refine xf_aload_n hX 67 rfl 0 xnd_RD_readLocked_66 rfl rfl ?_
          refine xf_V0v hX 70 rfl (xc_copy P _ _ _ hr (hfi h63)) xq_RD_copyItem xk_RD_51 (xrX_RD hr) rfl rfl xnd_RD_readLocked_67 ?_
          exact K2 _ rfl (by rw [← hFin, if_neg h63])
      refine xf_aload_n hX 1 rfl 0 xnd_RD_readLocked_0 rfl rfl ?_
      refine xg_RD_writer hX 4 rfl hr xk_RD_15 xnd_RD_readLocked_1 ?_
      refine xf_V0i hX 7 rfl (xc_uw P _ _) xq_WR_isUnderWay xk_RD_111 xrX_WR rfl rfl xnd_RD_readLocked_4 ?_
      rw [hu0]
      refine xf_if_eq hX 10 rfl 24 xnd_RD_readLocked_7 (by decide) (fun _ => ?_) (fun h7 => absurd rfl h7)
      refine xf_aload_n hX 25 rfl 0 xnd_RD_readLocked_24 rfl rfl ?_
      refine xg_RD_store hX 28 rfl hr xk_RD_9 xnd_RD_readLocked_25 ?_
      refine xf_aload_n hX 29 rfl 0 xnd_RD_readLocked_28 rfl rfl ?_
      refine xg_RD_key hX 32 rfl hr xk_RD_31 xnd_RD_readLocked_29 ?_
      refine xf_V1i hX 35 rfl (xc_lk P _ _ _ ho) xq_ST_lookUp xk_RD_117 xrX_ST rfl rfl xnd_RD_readLocked_32 ?_
      rw [hs, hF]
      refine xf_istore_n hX 36 rfl 1 xnd_RD_readLocked_35 rfl (by decide) ?_
      dsimp only [List.set]
      refine xf_aload_n hX 37 rfl 0 xnd_RD_readLocked_36 rfl rfl ?_
      refine xf_iload_n hX 38 rfl 1 xnd_RD_readLocked_37 rfl rfl ?_
      refine xf_iconst hX 39 rfl (-1) xnd_RD_readLocked_38 (by decide) ?_
      refine xf_icmp_eq hX 42 rfl 54 xnd_RD_readLocked_39 (by decide) (fun h39 => ?_) (fun h39 => ?_)
      · refine xf_iconst hX 55 rfl (-1) xnd_RD_readLocked_54 (by decide) ?_
        exact K _ (by rw [← hfe, if_pos h39])
      · refine xf_aload_n hX 43 rfl 0 xnd_RD_readLocked_42 rfl rfl ?_
        refine xg_RD_store hX 46 rfl hr xk_RD_9 xnd_RD_readLocked_43 ?_
        refine xg_ST_places hX 49 rfl xk_RD_77 xnd_RD_readLocked_46 ?_
        refine xf_iload_n hX 50 rfl 1 xnd_RD_readLocked_49 rfl rfl ?_
        refine xaX_iaload hX 51 rfl rfl (hFi h39) xnd_RD_readLocked_50 ?_
        rw [hs2]
        refine xf_goto hX 55 xnd_RD_readLocked_51 (by decide) ?_
        exact K _ (by rw [← hfe, if_neg h39])

/-- what a step of a reader needs -/
def xs_okR (n w z : Nat) (σ : xf_T) : Prop := xs_okP n w σ ∧ (σ.1 z = 4 → vp_in (σ.1 (z + 6)) n) ∧ (σ.1 z = 5 → ¬ σ.1 (z + 6) = -1 → vp_in (σ.1 (z + 6)) n)
set_option maxRecDepth 100000 in
set_option maxHeartbeats 4000000 in
theorem xc_goR (P : xw_T) (σ τ : xf_T) (r : Nat) (hr : r < 3) (hk : xs_okR (xw_n P) (xw_w P) (24 + 8 * r) σ) : xf_F (xw_l P) xny_RD_goOn xnc_RD_goOn 1 none 6 124 (xw_W P) (xw_D P) (xw_ty P) [.ref (xw_a P (18 + r))] (σ, τ) none (xs_goR (xw_w P) (24 + 8 * r) σ, τ) := by
  refine xf_start (own := xnR_RD) [some (.ref (xw_a P (18 + r)))] rfl (by decide) (Nat.le_of_ble_eq_true rfl) rfl (xf_cat rfl) ?_
  intro X hX hE
  have h9 : r = 0 ∨ r = 1 ∨ r = 2 := by omega
  rcases h9 with rfl | rfl | rfl
  · refine xf_aload_n hX 1 rfl 0 xnd_RD_goOn_0 rfl rfl ?_
    refine xg_RD_state hX 4 rfl hr xk_RD_23 xnd_RD_goOn_1 ?_
    by_cases c4_1 : σ.1 (24 + 8 * 0) = 1
    · rw [c4_1]
      refine xf_tabIn hX 40 xnd_RD_goOn_4 (by decide) (by decide) rfl (by decide) ?_
      refine xf_aload_n hX 41 rfl 0 xnd_RD_goOn_40 rfl rfl ?_
      refine xf_V0v hX 44 rfl (xc_kpV P _ _ _ hr) xq_RD_keepVersion xk_RD_37 (xrX_RD hr) rfl rfl xnd_RD_goOn_41 ?_
      refine xf_goto hX 100 xnd_RD_goOn_44 (by decide) ?_
      refine xf_vret hX hE xnd_RD_goOn_100 ?_
      refine ⟨rfl, ?_⟩
      simp only [xs_goR, eq_true c4_1, if_true, if_false]
    by_cases c4_2 : σ.1 (24 + 8 * 0) = 2
    · rw [c4_2]
      refine xf_tabIn hX 47 xnd_RD_goOn_4 (by decide) (by decide) rfl (by decide) ?_
      refine xf_aload_n hX 48 rfl 0 xnd_RD_goOn_47 rfl rfl ?_
      refine xf_aload_n hX 49 rfl 0 xnd_RD_goOn_48 rfl rfl ?_
      refine xg_RD_key hX 52 rfl hr xk_RD_31 xnd_RD_goOn_49 ?_
      refine xf_T1i hX 55 rfl (xc_firstBucket P _ _ _) xq_SC_firstBucket xk_RD_40 rfl rfl xnd_RD_goOn_52 ?_
      refine xf_iconst hX 56 rfl (3) xnd_RD_goOn_55 (by decide) ?_
      refine xf_V2v hX 59 rfl (xc_into P _ _ _ hr _ _ hk.1 (xs_b1_is _)) xq_RD_lookInto xk_RD_44 (xrX_RD hr) rfl rfl xnd_RD_goOn_56 ?_
      refine xf_goto hX 100 xnd_RD_goOn_59 (by decide) ?_
      refine xf_vret hX hE xnd_RD_goOn_100 ?_
      refine ⟨rfl, ?_⟩
      simp only [xs_goR, c4_1, eq_true c4_2, if_true, if_false]
    by_cases c4_3 : σ.1 (24 + 8 * 0) = 3
    · rw [c4_3]
      refine xf_tabIn hX 62 xnd_RD_goOn_4 (by decide) (by decide) rfl (by decide) ?_
      refine xf_aload_n hX 63 rfl 0 xnd_RD_goOn_62 rfl rfl ?_
      refine xf_aload_n hX 64 rfl 0 xnd_RD_goOn_63 rfl rfl ?_
      refine xg_RD_key hX 67 rfl hr xk_RD_31 xnd_RD_goOn_64 ?_
      refine xf_T1i hX 70 rfl (xc_secondBucket P _ _ _) xq_SC_secondBucket xk_RD_48 rfl rfl xnd_RD_goOn_67 ?_
      refine xf_iconst hX 71 rfl (5) xnd_RD_goOn_70 (by decide) ?_
      refine xf_V2v hX 74 rfl (xc_into P _ _ _ hr _ _ hk.1 (xs_b2_is _)) xq_RD_lookInto xk_RD_44 (xrX_RD hr) rfl rfl xnd_RD_goOn_71 ?_
      refine xf_goto hX 100 xnd_RD_goOn_74 (by decide) ?_
      refine xf_vret hX hE xnd_RD_goOn_100 ?_
      refine ⟨rfl, ?_⟩
      simp only [xs_goR, c4_1, c4_2, eq_true c4_3, if_true, if_false]
    by_cases c4_4 : σ.1 (24 + 8 * 0) = 4
    · rw [c4_4]
      refine xf_tabIn hX 77 xnd_RD_goOn_4 (by decide) (by decide) rfl (by decide) ?_
      refine xf_aload_n hX 78 rfl 0 xnd_RD_goOn_77 rfl rfl ?_
      refine xf_V0v hX 81 rfl (xc_copy P _ _ _ hr (hk.2.1 c4_4)) xq_RD_copyItem xk_RD_51 (xrX_RD hr) rfl rfl xnd_RD_goOn_78 ?_
      refine xf_aload_n hX 82 rfl 0 xnd_RD_goOn_81 rfl rfl ?_
      refine xf_iconst hX 83 rfl (5) xnd_RD_goOn_82 (by decide) ?_
      refine xp_RD_state hX 86 rfl hr xk_RD_23 xnd_RD_goOn_83 ?_
      refine xf_goto hX 100 xnd_RD_goOn_86 (by decide) ?_
      refine xf_vret hX hE xnd_RD_goOn_100 ?_
      refine ⟨rfl, ?_⟩
      simp only [xs_goR, c4_1, c4_2, c4_3, eq_true c4_4, if_true, if_false]
    by_cases c4_5 : σ.1 (24 + 8 * 0) = 5
    · rw [c4_5]
      refine xf_tabIn hX 89 xnd_RD_goOn_4 (by decide) (by decide) rfl (by decide) ?_
      refine xf_aload_n hX 90 rfl 0 xnd_RD_goOn_89 rfl rfl ?_
      refine xf_V0v hX 93 rfl (xc_chk P _ _ _ hr (hk.2.2 c4_5)) xq_RD_checkVersion xk_RD_54 (xrX_RD hr) rfl rfl xnd_RD_goOn_90 ?_
      refine xf_goto hX 100 xnd_RD_goOn_93 (by decide) ?_
      refine xf_vret hX hE xnd_RD_goOn_100 ?_
      refine ⟨rfl, ?_⟩
      simp only [xs_goR, c4_1, c4_2, c4_3, c4_4, eq_true c4_5, if_true, if_false]
    have n0 := lv_neT c4_1 (by decide : ((1 : Int32)).toInt = 1)
    have n1 := lv_neT c4_2 (by decide : ((2 : Int32)).toInt = 2)
    have n2 := lv_neT c4_3 (by decide : ((3 : Int32)).toInt = 3)
    have n3 := lv_neT c4_4 (by decide : ((4 : Int32)).toInt = 4)
    have n4 := lv_neT c4_5 (by decide : ((5 : Int32)).toInt = 5)
    refine xf_tabOut hX 96 xnd_RD_goOn_4 (by omega) (by decide) ?_
    refine xf_aload_n hX 97 rfl 0 xnd_RD_goOn_96 rfl rfl ?_
    refine xf_V0v hX 100 rfl (xc_lck P _ _ _ hr hk.1) xq_RD_readLocked xk_RD_57 (xrX_RD hr) rfl rfl xnd_RD_goOn_97 ?_
    refine xf_vret hX hE xnd_RD_goOn_100 ?_
    refine ⟨rfl, ?_⟩
    simp only [xs_goR, c4_1, c4_2, c4_3, c4_4, c4_5, if_true, if_false]
  · refine xf_aload_n hX 1 rfl 0 xnd_RD_goOn_0 rfl rfl ?_
    refine xg_RD_state hX 4 rfl hr xk_RD_23 xnd_RD_goOn_1 ?_
    by_cases c4_1 : σ.1 (24 + 8 * 1) = 1
    · rw [c4_1]
      refine xf_tabIn hX 40 xnd_RD_goOn_4 (by decide) (by decide) rfl (by decide) ?_
      refine xf_aload_n hX 41 rfl 0 xnd_RD_goOn_40 rfl rfl ?_
      refine xf_V0v hX 44 rfl (xc_kpV P _ _ _ hr) xq_RD_keepVersion xk_RD_37 (xrX_RD hr) rfl rfl xnd_RD_goOn_41 ?_
      refine xf_goto hX 100 xnd_RD_goOn_44 (by decide) ?_
      refine xf_vret hX hE xnd_RD_goOn_100 ?_
      refine ⟨rfl, ?_⟩
      simp only [xs_goR, eq_true c4_1, if_true, if_false]
    by_cases c4_2 : σ.1 (24 + 8 * 1) = 2
    · rw [c4_2]
      refine xf_tabIn hX 47 xnd_RD_goOn_4 (by decide) (by decide) rfl (by decide) ?_
      refine xf_aload_n hX 48 rfl 0 xnd_RD_goOn_47 rfl rfl ?_
      refine xf_aload_n hX 49 rfl 0 xnd_RD_goOn_48 rfl rfl ?_
      refine xg_RD_key hX 52 rfl hr xk_RD_31 xnd_RD_goOn_49 ?_
      refine xf_T1i hX 55 rfl (xc_firstBucket P _ _ _) xq_SC_firstBucket xk_RD_40 rfl rfl xnd_RD_goOn_52 ?_
      refine xf_iconst hX 56 rfl (3) xnd_RD_goOn_55 (by decide) ?_
      refine xf_V2v hX 59 rfl (xc_into P _ _ _ hr _ _ hk.1 (xs_b1_is _)) xq_RD_lookInto xk_RD_44 (xrX_RD hr) rfl rfl xnd_RD_goOn_56 ?_
      refine xf_goto hX 100 xnd_RD_goOn_59 (by decide) ?_
      refine xf_vret hX hE xnd_RD_goOn_100 ?_
      refine ⟨rfl, ?_⟩
      simp only [xs_goR, c4_1, eq_true c4_2, if_true, if_false]
    by_cases c4_3 : σ.1 (24 + 8 * 1) = 3
    · rw [c4_3]
      refine xf_tabIn hX 62 xnd_RD_goOn_4 (by decide) (by decide) rfl (by decide) ?_
      refine xf_aload_n hX 63 rfl 0 xnd_RD_goOn_62 rfl rfl ?_
      refine xf_aload_n hX 64 rfl 0 xnd_RD_goOn_63 rfl rfl ?_
      refine xg_RD_key hX 67 rfl hr xk_RD_31 xnd_RD_goOn_64 ?_
      refine xf_T1i hX 70 rfl (xc_secondBucket P _ _ _) xq_SC_secondBucket xk_RD_48 rfl rfl xnd_RD_goOn_67 ?_
      refine xf_iconst hX 71 rfl (5) xnd_RD_goOn_70 (by decide) ?_
      refine xf_V2v hX 74 rfl (xc_into P _ _ _ hr _ _ hk.1 (xs_b2_is _)) xq_RD_lookInto xk_RD_44 (xrX_RD hr) rfl rfl xnd_RD_goOn_71 ?_
      refine xf_goto hX 100 xnd_RD_goOn_74 (by decide) ?_
      refine xf_vret hX hE xnd_RD_goOn_100 ?_
      refine ⟨rfl, ?_⟩
      simp only [xs_goR, c4_1, c4_2, eq_true c4_3, if_true, if_false]
    by_cases c4_4 : σ.1 (24 + 8 * 1) = 4
    · rw [c4_4]
      refine xf_tabIn hX 77 xnd_RD_goOn_4 (by decide) (by decide) rfl (by decide) ?_
      refine xf_aload_n hX 78 rfl 0 xnd_RD_goOn_77 rfl rfl ?_
      refine xf_V0v hX 81 rfl (xc_copy P _ _ _ hr (hk.2.1 c4_4)) xq_RD_copyItem xk_RD_51 (xrX_RD hr) rfl rfl xnd_RD_goOn_78 ?_
      refine xf_aload_n hX 82 rfl 0 xnd_RD_goOn_81 rfl rfl ?_
      refine xf_iconst hX 83 rfl (5) xnd_RD_goOn_82 (by decide) ?_
      refine xp_RD_state hX 86 rfl hr xk_RD_23 xnd_RD_goOn_83 ?_
      refine xf_goto hX 100 xnd_RD_goOn_86 (by decide) ?_
      refine xf_vret hX hE xnd_RD_goOn_100 ?_
      refine ⟨rfl, ?_⟩
      simp only [xs_goR, c4_1, c4_2, c4_3, eq_true c4_4, if_true, if_false]
    by_cases c4_5 : σ.1 (24 + 8 * 1) = 5
    · rw [c4_5]
      refine xf_tabIn hX 89 xnd_RD_goOn_4 (by decide) (by decide) rfl (by decide) ?_
      refine xf_aload_n hX 90 rfl 0 xnd_RD_goOn_89 rfl rfl ?_
      refine xf_V0v hX 93 rfl (xc_chk P _ _ _ hr (hk.2.2 c4_5)) xq_RD_checkVersion xk_RD_54 (xrX_RD hr) rfl rfl xnd_RD_goOn_90 ?_
      refine xf_goto hX 100 xnd_RD_goOn_93 (by decide) ?_
      refine xf_vret hX hE xnd_RD_goOn_100 ?_
      refine ⟨rfl, ?_⟩
      simp only [xs_goR, c4_1, c4_2, c4_3, c4_4, eq_true c4_5, if_true, if_false]
    have n0 := lv_neT c4_1 (by decide : ((1 : Int32)).toInt = 1)
    have n1 := lv_neT c4_2 (by decide : ((2 : Int32)).toInt = 2)
    have n2 := lv_neT c4_3 (by decide : ((3 : Int32)).toInt = 3)
    have n3 := lv_neT c4_4 (by decide : ((4 : Int32)).toInt = 4)
    have n4 := lv_neT c4_5 (by decide : ((5 : Int32)).toInt = 5)
    refine xf_tabOut hX 96 xnd_RD_goOn_4 (by omega) (by decide) ?_
    refine xf_aload_n hX 97 rfl 0 xnd_RD_goOn_96 rfl rfl ?_
    refine xf_V0v hX 100 rfl (xc_lck P _ _ _ hr hk.1) xq_RD_readLocked xk_RD_57 (xrX_RD hr) rfl rfl xnd_RD_goOn_97 ?_
    refine xf_vret hX hE xnd_RD_goOn_100 ?_
    refine ⟨rfl, ?_⟩
    simp only [xs_goR, c4_1, c4_2, c4_3, c4_4, c4_5, if_true, if_false]
  · refine xf_aload_n hX 1 rfl 0 xnd_RD_goOn_0 rfl rfl ?_
    refine xg_RD_state hX 4 rfl hr xk_RD_23 xnd_RD_goOn_1 ?_
    by_cases c4_1 : σ.1 (24 + 8 * 2) = 1
    · rw [c4_1]
      refine xf_tabIn hX 40 xnd_RD_goOn_4 (by decide) (by decide) rfl (by decide) ?_
      refine xf_aload_n hX 41 rfl 0 xnd_RD_goOn_40 rfl rfl ?_
      refine xf_V0v hX 44 rfl (xc_kpV P _ _ _ hr) xq_RD_keepVersion xk_RD_37 (xrX_RD hr) rfl rfl xnd_RD_goOn_41 ?_
      refine xf_goto hX 100 xnd_RD_goOn_44 (by decide) ?_
      refine xf_vret hX hE xnd_RD_goOn_100 ?_
      refine ⟨rfl, ?_⟩
      simp only [xs_goR, eq_true c4_1, if_true, if_false]
    by_cases c4_2 : σ.1 (24 + 8 * 2) = 2
    · rw [c4_2]
      refine xf_tabIn hX 47 xnd_RD_goOn_4 (by decide) (by decide) rfl (by decide) ?_
      refine xf_aload_n hX 48 rfl 0 xnd_RD_goOn_47 rfl rfl ?_
      refine xf_aload_n hX 49 rfl 0 xnd_RD_goOn_48 rfl rfl ?_
      refine xg_RD_key hX 52 rfl hr xk_RD_31 xnd_RD_goOn_49 ?_
      refine xf_T1i hX 55 rfl (xc_firstBucket P _ _ _) xq_SC_firstBucket xk_RD_40 rfl rfl xnd_RD_goOn_52 ?_
      refine xf_iconst hX 56 rfl (3) xnd_RD_goOn_55 (by decide) ?_
      refine xf_V2v hX 59 rfl (xc_into P _ _ _ hr _ _ hk.1 (xs_b1_is _)) xq_RD_lookInto xk_RD_44 (xrX_RD hr) rfl rfl xnd_RD_goOn_56 ?_
      refine xf_goto hX 100 xnd_RD_goOn_59 (by decide) ?_
      refine xf_vret hX hE xnd_RD_goOn_100 ?_
      refine ⟨rfl, ?_⟩
      simp only [xs_goR, c4_1, eq_true c4_2, if_true, if_false]
    by_cases c4_3 : σ.1 (24 + 8 * 2) = 3
    · rw [c4_3]
      refine xf_tabIn hX 62 xnd_RD_goOn_4 (by decide) (by decide) rfl (by decide) ?_
      refine xf_aload_n hX 63 rfl 0 xnd_RD_goOn_62 rfl rfl ?_
      refine xf_aload_n hX 64 rfl 0 xnd_RD_goOn_63 rfl rfl ?_
      refine xg_RD_key hX 67 rfl hr xk_RD_31 xnd_RD_goOn_64 ?_
      refine xf_T1i hX 70 rfl (xc_secondBucket P _ _ _) xq_SC_secondBucket xk_RD_48 rfl rfl xnd_RD_goOn_67 ?_
      refine xf_iconst hX 71 rfl (5) xnd_RD_goOn_70 (by decide) ?_
      refine xf_V2v hX 74 rfl (xc_into P _ _ _ hr _ _ hk.1 (xs_b2_is _)) xq_RD_lookInto xk_RD_44 (xrX_RD hr) rfl rfl xnd_RD_goOn_71 ?_
      refine xf_goto hX 100 xnd_RD_goOn_74 (by decide) ?_
      refine xf_vret hX hE xnd_RD_goOn_100 ?_
      refine ⟨rfl, ?_⟩
      simp only [xs_goR, c4_1, c4_2, eq_true c4_3, if_true, if_false]
    by_cases c4_4 : σ.1 (24 + 8 * 2) = 4
    · rw [c4_4]
      refine xf_tabIn hX 77 xnd_RD_goOn_4 (by decide) (by decide) rfl (by decide) ?_
      refine xf_aload_n hX 78 rfl 0 xnd_RD_goOn_77 rfl rfl ?_
      refine xf_V0v hX 81 rfl (xc_copy P _ _ _ hr (hk.2.1 c4_4)) xq_RD_copyItem xk_RD_51 (xrX_RD hr) rfl rfl xnd_RD_goOn_78 ?_
      refine xf_aload_n hX 82 rfl 0 xnd_RD_goOn_81 rfl rfl ?_
      refine xf_iconst hX 83 rfl (5) xnd_RD_goOn_82 (by decide) ?_
      refine xp_RD_state hX 86 rfl hr xk_RD_23 xnd_RD_goOn_83 ?_
      refine xf_goto hX 100 xnd_RD_goOn_86 (by decide) ?_
      refine xf_vret hX hE xnd_RD_goOn_100 ?_
      refine ⟨rfl, ?_⟩
      simp only [xs_goR, c4_1, c4_2, c4_3, eq_true c4_4, if_true, if_false]
    by_cases c4_5 : σ.1 (24 + 8 * 2) = 5
    · rw [c4_5]
      refine xf_tabIn hX 89 xnd_RD_goOn_4 (by decide) (by decide) rfl (by decide) ?_
      refine xf_aload_n hX 90 rfl 0 xnd_RD_goOn_89 rfl rfl ?_
      refine xf_V0v hX 93 rfl (xc_chk P _ _ _ hr (hk.2.2 c4_5)) xq_RD_checkVersion xk_RD_54 (xrX_RD hr) rfl rfl xnd_RD_goOn_90 ?_
      refine xf_goto hX 100 xnd_RD_goOn_93 (by decide) ?_
      refine xf_vret hX hE xnd_RD_goOn_100 ?_
      refine ⟨rfl, ?_⟩
      simp only [xs_goR, c4_1, c4_2, c4_3, c4_4, eq_true c4_5, if_true, if_false]
    have n0 := lv_neT c4_1 (by decide : ((1 : Int32)).toInt = 1)
    have n1 := lv_neT c4_2 (by decide : ((2 : Int32)).toInt = 2)
    have n2 := lv_neT c4_3 (by decide : ((3 : Int32)).toInt = 3)
    have n3 := lv_neT c4_4 (by decide : ((4 : Int32)).toInt = 4)
    have n4 := lv_neT c4_5 (by decide : ((5 : Int32)).toInt = 5)
    refine xf_tabOut hX 96 xnd_RD_goOn_4 (by omega) (by decide) ?_
    refine xf_aload_n hX 97 rfl 0 xnd_RD_goOn_96 rfl rfl ?_
    refine xf_V0v hX 100 rfl (xc_lck P _ _ _ hr hk.1) xq_RD_readLocked xk_RD_57 (xrX_RD hr) rfl rfl xnd_RD_goOn_97 ?_
    refine xf_vret hX hE xnd_RD_goOn_100 ?_
    refine ⟨rfl, ?_⟩
    simp only [xs_goR, c4_1, c4_2, c4_3, c4_4, c4_5, if_true, if_false]

