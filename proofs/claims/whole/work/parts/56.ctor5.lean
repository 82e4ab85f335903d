/-! The class's constructor. -/
set_option maxRecDepth 100000 in
set_option maxHeartbeats 400000 in
theorem xh_SC (l : Launch) (D : va_G) (cI cZ cR : ClassId) (x : Nat) (it wy : Int32) : xg_M l xny_SC_init xnc_SC_init 4 3 55 20 405 D [(cI, .int), (cZ, .boolean), (cR, .object xnR_RD)] [.ref x, .int it, .int wy] [(x, .inr (0, [.null, .null, .null, .null]))] (fun w1 => ∃ ta st pl ke va to ex bi us ve wr pa so qu be de ra r0 r1 r2 : Nat, w1 = [(x, .inr (0, [.ref ta, .ref st, .ref wr, .ref ra])), (ta, .inr (1, [.int 0, .int 0, .int 0, .int 0, .int 0, .int 0])), (st, .inr (2, [.ref ta, .int (nI (xh_n it)), .int (nI (xh_w wy)), .ref pl, .ref ke, .ref va, .ref to, .ref ex, .ref bi, .ref us, .ref ve, .int 0, .int 0, .int 0])), (pl, .inl (cI, 8 * xh_w wy, .inl (fun p => if p < 8 * xh_w wy then -1 else 0))), (ke, .inl (cI, xh_n it, .inl (fun _ => 0))), (va, .inl (cI, xh_n it, .inl (fun _ => 0))), (to, .inl (cI, xh_n it, .inl (fun _ => 0))), (ex, .inl (cI, xh_n it, .inl (fun _ => 0))), (bi, .inl (cZ, xh_n it, .inl (fun _ => 0))), (us, .inl (cZ, xh_n it, .inl (fun _ => 0))), (ve, .inl (cI, 4, .inl (fun _ => 0))), (wr, .inr (3, [.ref st, .ref ta, .ref pa, .int (-1), .int 0, .int 0, .int 0, .int 0, .int 0, .int 0, .int 0, .int 0, .int 0])), (pa, .inr (4, [.ref st, .ref so, .int 0, .ref qu, .ref be, .ref de, .int 0])), (so, .inl (cI, 5, .inl (fun _ => 0))), (qu, .inl (cI, 8 * xh_w wy, .inl (fun _ => 0))), (be, .inl (cI, 8 * xh_w wy, .inl (fun _ => 0))), (de, .inl (cI, 8 * xh_w wy, .inl (fun _ => 0))), (ra, .inl (cR, 3, .inr (.inr (.inr (.inr (va_up (va_up (va_up (fun _ => none) ((0 : Int32).toNatClampNeg) (some r0)) ((1 : Int32).toNatClampNeg) (some r1)) ((2 : Int32).toNatClampNeg) (some r2))))))), (r0, .inr (5, [.ref st, .ref wr, .ref ta, .int 0, .int 0, .int 0, .int 0, .int 0, .int 0, .int 0, .int 0])), (r1, .inr (5, [.ref st, .ref wr, .ref ta, .int 0, .int 0, .int 0, .int 0, .int 0, .int 0, .int 0, .int 0])), (r2, .inr (5, [.ref st, .ref wr, .ref ta, .int 0, .int 0, .int 0, .int 0, .int 0, .int 0, .int 0, .int 0]))]) := by
  refine xg_start (own := xnR_SC) [some (.ref x), some (.int it), some (.int wy), none] rfl rfl (by decide) (Nat.le_of_ble_eq_true rfl) rfl (xf_cat rfl) ?_
  intro X hX hI hE
  refine xf_aload_n (hX.on rfl rfl) 1 rfl 0 xnd_SC_init_0 rfl rfl ?_
  refine xg_objInit hX 4 rfl xkO_SC xkO_i xkO_c rfl rfl xnd_SC_init_1 ?_
  refine xf_aload_n (hX.on rfl rfl) 5 rfl 0 xnd_SC_init_4 rfl rfl ?_
  refine xg_new hX 8 rfl (ci := 1) xin_TA xnK_TA xnO_TA xkC_SC_7 xkI_TA xkZ_TA rfl xz_TA rfl rfl xnd_SC_init_5 (fun ta => ?_)
  dsimp only [List.set, List.cons_append, List.nil_append]
  refine xf_dup (hX.on rfl rfl) 9 rfl xnd_SC_init_8 rfl ?_
  refine xg_callIN hX 12 rfl [] [.ref ta, .ref x] (xh_TA l D cI cZ cR _ ta) xgi_TA xkN_SC_9 rfl rfl rfl rfl rfl rfl xnd_SC_init_9 ?_
  intro w1 hw1
  subst hw1
  refine xg_putF hX hI 15 rfl xin_SC xnK_SC xnO_SC xnM_SC 0 rfl rfl 0 (by decide) xk_SC_10 rfl rfl (xnO_SC 0 (by decide)) rfl rfl (Nat.le_of_ble_eq_true rfl) xnd_SC_init_12 ?_
  dsimp only [List.set, List.cons_append, List.nil_append]
  refine xf_aload_n (hX.on rfl rfl) 16 rfl 0 xnd_SC_init_15 rfl rfl ?_
  refine xg_new hX 19 rfl (ci := 2) xin_ST xnK_ST xnO_ST xkC_SC_16 xkI_ST xkZ_ST rfl xz_ST rfl rfl xnd_SC_init_16 (fun st => ?_)
  dsimp only [List.set, List.cons_append, List.nil_append]
  refine xf_dup (hX.on rfl rfl) 20 rfl xnd_SC_init_19 rfl ?_
  refine xf_iload_n (hX.on rfl rfl) 21 rfl 1 xnd_SC_init_20 rfl rfl ?_
  refine xf_iconst (hX.on rfl rfl) 22 rfl (1) xnd_SC_init_21 (by decide) ?_
  refine xf_bipush (hX.on rfl rfl) 24 rfl (32) xnd_SC_init_22 (by decide) ?_
  refine xf_S3i (hX.on rfl rfl) 27 rfl (xh_isW l D _ _ xg_0 it 1 32) xq_SC_isWithin xk_SC_18 rfl rfl xnd_SC_init_24 ?_
  suffices hT : ∀ v : Int32, v = nI (xh_n it) → xf_V (xf_re X _ _ _) 36 [some (.ref x), some (.int it), some (.int wy), none] [.int v, .ref st, .ref st, .ref x] xg_0 by
    refine xf_if_eq (hX.on rfl rfl) 30 rfl 34 xnd_SC_init_27 (by decide) (fun h1 => ?_) (fun h1 => ?_)
    · refine xf_bipush (hX.on rfl rfl) 36 rfl (12) xnd_SC_init_34 (by decide) ?_
      exact hT _ (xh_n12 h1)
    · refine xf_iload_n (hX.on rfl rfl) 31 rfl 1 xnd_SC_init_30 rfl rfl ?_
      refine xf_goto (hX.on rfl rfl) 36 xnd_SC_init_31 (by decide) ?_
      exact hT _ (xh_nit h1)
  intro v hv
  subst hv
  refine xf_iload_n (hX.on rfl rfl) 37 rfl 2 xnd_SC_init_36 rfl rfl ?_
  refine xf_iconst (hX.on rfl rfl) 38 rfl (1) xnd_SC_init_37 (by decide) ?_
  refine xf_iconst (hX.on rfl rfl) 39 rfl (4) xnd_SC_init_38 (by decide) ?_
  refine xf_S3i (hX.on rfl rfl) 42 rfl (xh_isW l D _ _ xg_0 wy 1 4) xq_SC_isWithin xk_SC_18 rfl rfl xnd_SC_init_39 ?_
  suffices hT : ∀ v : Int32, v = nI (xh_w wy) → xf_V (xf_re X _ _ _) 50 [some (.ref x), some (.int it), some (.int wy), none] [.int v, .int (nI (xh_n it)), .ref st, .ref st, .ref x] xg_0 by
    refine xf_if_eq (hX.on rfl rfl) 45 rfl 49 xnd_SC_init_42 (by decide) (fun h1 => ?_) (fun h1 => ?_)
    · refine xf_iconst (hX.on rfl rfl) 50 rfl (2) xnd_SC_init_49 (by decide) ?_
      exact hT _ (xh_w2 h1)
    · refine xf_iload_n (hX.on rfl rfl) 46 rfl 2 xnd_SC_init_45 rfl rfl ?_
      refine xf_goto (hX.on rfl rfl) 50 xnd_SC_init_46 (by decide) ?_
      exact hT _ (xh_wit h1)
  intro v hv
  subst hv
  refine xf_aload_n (hX.on rfl rfl) 51 rfl 0 xnd_SC_init_50 rfl rfl ?_
  refine xf_get (hX.on rfl rfl) 54 rfl xin_SC 0 rfl rfl 0 (by decide) xk_SC_10 rfl xnd_SC_init_51 ?_
  refine xg_callI hX 57 rfl [.int (nI (xh_n it)), .int (nI (xh_w wy)), .ref ta] [.ref st, .ref x] (xh_ST l D cI cZ cR x ta st (xh_n it) (xh_w wy) (xh_nb it).2 (xh_wb wy).2) xgi_ST xk_SC_22 rfl rfl rfl rfl rfl rfl xnd_SC_init_54 ?_
  intro w1 hw1
  obtain ⟨pl, ke, va, to, ex, bi, us, ve, rfl⟩ := hw1
  refine xg_putF hX hI 60 rfl xin_SC xnK_SC xnO_SC xnM_SC 0 rfl rfl 1 (by decide) xk_SC_25 rfl rfl (xnO_SC 1 (by decide)) rfl rfl (Nat.le_of_ble_eq_true rfl) xnd_SC_init_57 ?_
  dsimp only [List.set, List.cons_append, List.nil_append]
  refine xf_aload_n (hX.on rfl rfl) 61 rfl 0 xnd_SC_init_60 rfl rfl ?_
  refine xg_new hX 64 rfl (ci := 3) xin_WR xnK_WR xnO_WR xkC_SC_29 xkI_WR xkZ_WR rfl xz_WR rfl rfl xnd_SC_init_61 (fun wr => ?_)
  dsimp only [List.set, List.cons_append, List.nil_append]
  refine xf_dup (hX.on rfl rfl) 65 rfl xnd_SC_init_64 rfl ?_
  refine xf_aload_n (hX.on rfl rfl) 66 rfl 0 xnd_SC_init_65 rfl rfl ?_
  refine xf_get (hX.on rfl rfl) 69 rfl xin_SC 0 rfl rfl 1 (by decide) xk_SC_25 rfl xnd_SC_init_66 ?_
  refine xf_aload_n (hX.on rfl rfl) 70 rfl 0 xnd_SC_init_69 rfl rfl ?_
  refine xf_get (hX.on rfl rfl) 73 rfl xin_SC 0 rfl rfl 0 (by decide) xk_SC_10 rfl xnd_SC_init_70 ?_
  refine xg_callI hX 76 rfl [.ref st, .ref ta] [.ref wr, .ref x] (xh_WR l D cI cZ cR x ta st pl ke va to ex bi us ve wr (xh_n it) (xh_w wy) (xh_wb wy).2) xgi_WR xk_SC_31 rfl rfl rfl rfl rfl rfl xnd_SC_init_73 ?_
  intro w1 hw1
  obtain ⟨pa, so, qu, be, de, rfl⟩ := hw1
  refine xg_putF hX hI 79 rfl xin_SC xnK_SC xnO_SC xnM_SC 0 rfl rfl 2 (by decide) xk_SC_34 rfl rfl (xnO_SC 2 (by decide)) rfl rfl (Nat.le_of_ble_eq_true rfl) xnd_SC_init_76 ?_
  dsimp only [List.set, List.cons_append, List.nil_append]
  refine xf_aload_n (hX.on rfl rfl) 80 rfl 0 xnd_SC_init_79 rfl rfl ?_
  refine xf_iconst (hX.on rfl rfl) 81 rfl (3) xnd_SC_init_80 (by decide) ?_
  refine xg_newq hX 84 rfl xkC_SC_38 2 rfl 3 rfl (by decide) rfl rfl xnd_SC_init_81 (fun ra => ?_)
  dsimp only [List.set, List.cons_append, List.nil_append]
  refine xg_putF hX hI 87 rfl xin_SC xnK_SC xnO_SC xnM_SC 0 rfl rfl 3 (by decide) xk_SC_40 rfl rfl (xnO_SC 3 (by decide)) rfl rfl (Nat.le_of_ble_eq_true rfl) xnd_SC_init_84 ?_
  dsimp only [List.set, List.cons_append, List.nil_append]
  refine xf_iconst (hX.on rfl rfl) 88 rfl (0) xnd_SC_init_87 (by decide) ?_
  refine xf_istore_n (hX.on rfl rfl) 89 rfl 3 xnd_SC_init_88 rfl (by decide) ?_
  dsimp only [List.set]
  refine xf_iload_n (hX.on rfl rfl) 90 rfl 3 xnd_SC_init_89 rfl rfl ?_
  refine xf_iconst (hX.on rfl rfl) 91 rfl (3) xnd_SC_init_90 (by decide) ?_
  refine xf_icmp_ge (hX.on rfl rfl) 94 rfl 125 xnd_SC_init_91 (by decide) (fun h => absurd h (by decide)) (fun _ => ?_)
  refine xf_aload_n (hX.on rfl rfl) 95 rfl 0 xnd_SC_init_94 rfl rfl ?_
  refine xf_get (hX.on rfl rfl) 98 rfl xin_SC 0 rfl rfl 3 (by decide) xk_SC_40 rfl xnd_SC_init_95 ?_
  refine xf_iload_n (hX.on rfl rfl) 99 rfl 3 xnd_SC_init_98 rfl rfl ?_
  refine xg_new hX 102 rfl (ci := 5) xin_RD xnK_RD xnO_RD xkC_SC_38 xkI_RD xkZ_RD rfl xz_RD rfl rfl xnd_SC_init_99 (fun r0 => ?_)
  dsimp only [List.set, List.cons_append, List.nil_append]
  refine xf_dup (hX.on rfl rfl) 103 rfl xnd_SC_init_102 rfl ?_
  refine xf_aload_n (hX.on rfl rfl) 104 rfl 0 xnd_SC_init_103 rfl rfl ?_
  refine xf_get (hX.on rfl rfl) 107 rfl xin_SC 0 rfl rfl 1 (by decide) xk_SC_25 rfl xnd_SC_init_104 ?_
  refine xf_aload_n (hX.on rfl rfl) 108 rfl 0 xnd_SC_init_107 rfl rfl ?_
  refine xf_get (hX.on rfl rfl) 111 rfl xin_SC 0 rfl rfl 2 (by decide) xk_SC_34 rfl xnd_SC_init_108 ?_
  refine xf_aload_n (hX.on rfl rfl) 112 rfl 0 xnd_SC_init_111 rfl rfl ?_
  refine xf_get (hX.on rfl rfl) 115 rfl xin_SC 0 rfl rfl 0 (by decide) xk_SC_10 rfl xnd_SC_init_112 ?_
  refine xg_callI hX 118 rfl [.ref st, .ref wr, .ref ta] [.ref r0, .int (0), .ref ra] (xh_RD l D cI cZ cR _ 18 r0 st wr ta rfl) xgi_RD xk_SC_44 rfl rfl rfl rfl rfl rfl xnd_SC_init_115 ?_
  intro w1 hw1
  subst hw1
  dsimp only [List.set, List.cons_append, List.nil_append]
  refine xg_astq hX 119 rfl 17 2 18 5 rfl rfl rfl rfl (vp_in_nI (n := 0) (by omega) (by omega)) xnd_SC_init_118 ?_
  dsimp only [List.set, List.cons_append, List.nil_append]
  refine xf_iinc (hX.on rfl rfl) 122 rfl (1) xnd_SC_init_119 rfl (by decide) (by decide) ?_
  dsimp only [List.set]
  refine xf_goto (hX.on rfl rfl) 89 xnd_SC_init_122 (by decide) ?_
  refine xf_iload_n (hX.on rfl rfl) 90 rfl 3 xnd_SC_init_89 rfl rfl ?_
  refine xf_iconst (hX.on rfl rfl) 91 rfl (3) xnd_SC_init_90 (by decide) ?_
  refine xf_icmp_ge (hX.on rfl rfl) 94 rfl 125 xnd_SC_init_91 (by decide) (fun h => absurd h (by decide)) (fun _ => ?_)
  refine xf_aload_n (hX.on rfl rfl) 95 rfl 0 xnd_SC_init_94 rfl rfl ?_
  refine xf_get (hX.on rfl rfl) 98 rfl xin_SC 0 rfl rfl 3 (by decide) xk_SC_40 rfl xnd_SC_init_95 ?_
  refine xf_iload_n (hX.on rfl rfl) 99 rfl 3 xnd_SC_init_98 rfl rfl ?_
  refine xg_new hX 102 rfl (ci := 5) xin_RD xnK_RD xnO_RD xkC_SC_38 xkI_RD xkZ_RD rfl xz_RD rfl rfl xnd_SC_init_99 (fun r1 => ?_)
  dsimp only [List.set, List.cons_append, List.nil_append]
  refine xf_dup (hX.on rfl rfl) 103 rfl xnd_SC_init_102 rfl ?_
  refine xf_aload_n (hX.on rfl rfl) 104 rfl 0 xnd_SC_init_103 rfl rfl ?_
  refine xf_get (hX.on rfl rfl) 107 rfl xin_SC 0 rfl rfl 1 (by decide) xk_SC_25 rfl xnd_SC_init_104 ?_
  refine xf_aload_n (hX.on rfl rfl) 108 rfl 0 xnd_SC_init_107 rfl rfl ?_
  refine xf_get (hX.on rfl rfl) 111 rfl xin_SC 0 rfl rfl 2 (by decide) xk_SC_34 rfl xnd_SC_init_108 ?_
  refine xf_aload_n (hX.on rfl rfl) 112 rfl 0 xnd_SC_init_111 rfl rfl ?_
  refine xf_get (hX.on rfl rfl) 115 rfl xin_SC 0 rfl rfl 0 (by decide) xk_SC_10 rfl xnd_SC_init_112 ?_
  refine xg_callI hX 118 rfl [.ref st, .ref wr, .ref ta] [.ref r1, .int (1), .ref ra] (xh_RD l D cI cZ cR _ 19 r1 st wr ta rfl) xgi_RD xk_SC_44 rfl rfl rfl rfl rfl rfl xnd_SC_init_115 ?_
  intro w1 hw1
  subst hw1
  dsimp only [List.set, List.cons_append, List.nil_append]
  refine xg_astq hX 119 rfl 17 2 19 5 rfl rfl rfl rfl (vp_in_nI (n := 1) (by omega) (by omega)) xnd_SC_init_118 ?_
  dsimp only [List.set, List.cons_append, List.nil_append]
  refine xf_iinc (hX.on rfl rfl) 122 rfl (2) xnd_SC_init_119 rfl (by decide) (by decide) ?_
  dsimp only [List.set]
  refine xf_goto (hX.on rfl rfl) 89 xnd_SC_init_122 (by decide) ?_
  refine xf_iload_n (hX.on rfl rfl) 90 rfl 3 xnd_SC_init_89 rfl rfl ?_
  refine xf_iconst (hX.on rfl rfl) 91 rfl (3) xnd_SC_init_90 (by decide) ?_
  refine xf_icmp_ge (hX.on rfl rfl) 94 rfl 125 xnd_SC_init_91 (by decide) (fun h => absurd h (by decide)) (fun _ => ?_)
  refine xf_aload_n (hX.on rfl rfl) 95 rfl 0 xnd_SC_init_94 rfl rfl ?_
  refine xf_get (hX.on rfl rfl) 98 rfl xin_SC 0 rfl rfl 3 (by decide) xk_SC_40 rfl xnd_SC_init_95 ?_
  refine xf_iload_n (hX.on rfl rfl) 99 rfl 3 xnd_SC_init_98 rfl rfl ?_
  refine xg_new hX 102 rfl (ci := 5) xin_RD xnK_RD xnO_RD xkC_SC_38 xkI_RD xkZ_RD rfl xz_RD rfl rfl xnd_SC_init_99 (fun r2 => ?_)
  dsimp only [List.set, List.cons_append, List.nil_append]
  refine xf_dup (hX.on rfl rfl) 103 rfl xnd_SC_init_102 rfl ?_
  refine xf_aload_n (hX.on rfl rfl) 104 rfl 0 xnd_SC_init_103 rfl rfl ?_
  refine xf_get (hX.on rfl rfl) 107 rfl xin_SC 0 rfl rfl 1 (by decide) xk_SC_25 rfl xnd_SC_init_104 ?_
  refine xf_aload_n (hX.on rfl rfl) 108 rfl 0 xnd_SC_init_107 rfl rfl ?_
  refine xf_get (hX.on rfl rfl) 111 rfl xin_SC 0 rfl rfl 2 (by decide) xk_SC_34 rfl xnd_SC_init_108 ?_
  refine xf_aload_n (hX.on rfl rfl) 112 rfl 0 xnd_SC_init_111 rfl rfl ?_
  refine xf_get (hX.on rfl rfl) 115 rfl xin_SC 0 rfl rfl 0 (by decide) xk_SC_10 rfl xnd_SC_init_112 ?_
  refine xg_callI hX 118 rfl [.ref st, .ref wr, .ref ta] [.ref r2, .int (2), .ref ra] (xh_RD l D cI cZ cR _ 20 r2 st wr ta rfl) xgi_RD xk_SC_44 rfl rfl rfl rfl rfl rfl xnd_SC_init_115 ?_
  intro w1 hw1
  subst hw1
  dsimp only [List.set, List.cons_append, List.nil_append]
  refine xg_astq hX 119 rfl 17 2 20 5 rfl rfl rfl rfl (vp_in_nI (n := 2) (by omega) (by omega)) xnd_SC_init_118 ?_
  dsimp only [List.set, List.cons_append, List.nil_append]
  refine xf_iinc (hX.on rfl rfl) 122 rfl (3) xnd_SC_init_119 rfl (by decide) (by decide) ?_
  dsimp only [List.set]
  refine xf_goto (hX.on rfl rfl) 89 xnd_SC_init_122 (by decide) ?_
  refine xf_iload_n (hX.on rfl rfl) 90 rfl 3 xnd_SC_init_89 rfl rfl ?_
  refine xf_iconst (hX.on rfl rfl) 91 rfl (3) xnd_SC_init_90 (by decide) ?_
  refine xf_icmp_ge (hX.on rfl rfl) 94 rfl 125 xnd_SC_init_91 (by decide) (fun _ => ?_) (fun h => absurd (by decide) h)
  exact xg_ret hX hE rfl rfl xnd_SC_init_125 ⟨ta, st, pl, ke, va, to, ex, bi, us, ve, wr, pa, so, qu, be, de, ra, r0, r1, r2, rfl⟩
