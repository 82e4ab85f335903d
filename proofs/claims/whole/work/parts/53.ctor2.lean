/-! The reference's constructor. -/
set_option maxRecDepth 100000 in
set_option maxHeartbeats 400000 in
theorem xh_MO (l : Launch) (D : va_G) (cI cZ cR : ClassId) (ws : va_W) (a : Nat) (it wy : Int32) : xg_M l xny_MO_init xnc_MO_init 3 1 12 17 257 D [(cI, .int), (cZ, .boolean), (cR, .object xnR_RD)] [.ref a, .int it, .int wy] ((a, .inr (6, [.int 0, .int 0, .int 0, .int 0, .int 0, .null, .null, .null, .null, .null, .null, .null, .null, .int 0, .int 0, .int 0, .int 0, .int 0, .int 0, .int 0, .int 0, .int 0, .int 0, .null, .null, .null, .null, .null, .null, .null, .null, .null, .int 0, .int 0, .int 0, .int 0, .int 0, .int 0])) :: ws) (fun w1 => ∃ c1 c2 c3 c4 c5 c6 c7 c8 c9 c10 c11 c12 c13 c14 c15 c16 c17 : Nat, w1 = (a, .inr (6, [.int (nI (xh_n it)), .int (nI (xh_w wy)), .int 0, .int 0, .int 0, .ref c1, .ref c2, .ref c3, .ref c4, .ref c5, .ref c6, .ref c7, .ref c8, .int 0, .int (-1), .int 0, .int 0, .int 0, .int 0, .int 0, .int 0, .int 0, .int 0, .ref c9, .ref c10, .ref c11, .ref c12, .ref c13, .ref c14, .ref c15, .ref c16, .ref c17, .int 0, .int 0, .int 0, .int 0, .int 0, .int 0])) :: (ws ++ [(c1, .inl (cI, 32, .inl (fun _ => 0)))] ++ [(c2, .inl (cZ, 32, .inl (fun _ => 0)))] ++ [(c3, .inl (cI, 32, .inl (fun _ => 0)))] ++ [(c4, .inl (cI, 32, .inl (fun _ => 0)))] ++ [(c5, .inl (cI, 32, .inl (fun _ => 0)))] ++ [(c6, .inl (cI, 32, .inl (fun _ => 0)))] ++ [(c7, .inl (cZ, 32, .inl (fun _ => 0)))] ++ [(c8, .inl (cI, 4, .inl (fun _ => 0)))] ++ [(c9, .inl (cI, 5, .inl (fun _ => 0)))] ++ [(c10, .inl (cI, 3, .inl (fun _ => 0)))] ++ [(c11, .inl (cI, 3, .inl (fun _ => 0)))] ++ [(c12, .inl (cI, 3, .inl (fun _ => 0)))] ++ [(c13, .inl (cI, 3, .inl (fun _ => 0)))] ++ [(c14, .inl (cI, 3, .inl (fun _ => 0)))] ++ [(c15, .inl (cI, 3, .inl (fun _ => 0)))] ++ [(c16, .inl (cI, 3, .inl (fun _ => 0)))] ++ [(c17, .inl (cI, 3, .inl (fun _ => 0)))])) := by
  refine xg_start (own := xnR_MO) [some (.ref a), some (.int it), some (.int wy)] rfl rfl (by decide) (Nat.le_of_ble_eq_true rfl) rfl (xf_cat rfl) ?_
  intro X hX hI hE
  refine xf_aload_n (hX.on rfl rfl) 1 rfl 0 xnd_MO_init_0 rfl rfl ?_
  refine xg_objInit hX 4 rfl xkO_MO xkO_i xkO_c rfl rfl xnd_MO_init_1 ?_
  refine xf_aload_n (hX.on rfl rfl) 5 rfl 0 xnd_MO_init_4 rfl rfl ?_
  refine xf_bipush (hX.on rfl rfl) 7 rfl (32) xnd_MO_init_5 (by decide) ?_
  refine xg_newa hX 9 rfl (atype := .int) (ty := .int) rfl xkA_int 0 rfl (fun _ _ h => h) (32) (fun _ => rfl) rfl 32 (Nat.le_refl _) (by decide) (by decide) rfl rfl xnd_MO_init_7 (fun c1 => ?_)
  dsimp only [List.set, List.cons_append]
  refine xg_putF hX hI 12 rfl xin_MO xnK_MO xnO_MO xnM_MO 0 rfl rfl 5 (by decide) xk_MO_7 rfl rfl (xnO_MO 5 (by decide)) rfl rfl (Nat.le_of_ble_eq_true rfl) xnd_MO_init_9 ?_
  dsimp only [List.set, List.cons_append]
  refine xf_aload_n (hX.on rfl rfl) 13 rfl 0 xnd_MO_init_12 rfl rfl ?_
  refine xf_bipush (hX.on rfl rfl) 15 rfl (32) xnd_MO_init_13 (by decide) ?_
  refine xg_newa hX 17 rfl (atype := .boolean) (ty := .boolean) rfl xkA_boolean 1 rfl (fun _ _ h => h) (32) (fun _ => rfl) rfl 32 (Nat.le_refl _) (by decide) (by decide) rfl rfl xnd_MO_init_15 (fun c2 => ?_)
  dsimp only [List.set, List.cons_append]
  refine xg_putF hX hI 20 rfl xin_MO xnK_MO xnO_MO xnM_MO 0 rfl rfl 6 (by decide) xk_MO_13 rfl rfl (xnO_MO 6 (by decide)) rfl rfl (Nat.le_of_ble_eq_true rfl) xnd_MO_init_17 ?_
  dsimp only [List.set, List.cons_append]
  refine xf_aload_n (hX.on rfl rfl) 21 rfl 0 xnd_MO_init_20 rfl rfl ?_
  refine xf_bipush (hX.on rfl rfl) 23 rfl (32) xnd_MO_init_21 (by decide) ?_
  refine xg_newa hX 25 rfl (atype := .int) (ty := .int) rfl xkA_int 0 rfl (fun _ _ h => h) (32) (fun _ => rfl) rfl 32 (Nat.le_refl _) (by decide) (by decide) rfl rfl xnd_MO_init_23 (fun c3 => ?_)
  dsimp only [List.set, List.cons_append]
  refine xg_putF hX hI 28 rfl xin_MO xnK_MO xnO_MO xnM_MO 0 rfl rfl 7 (by decide) xk_MO_17 rfl rfl (xnO_MO 7 (by decide)) rfl rfl (Nat.le_of_ble_eq_true rfl) xnd_MO_init_25 ?_
  dsimp only [List.set, List.cons_append]
  refine xf_aload_n (hX.on rfl rfl) 29 rfl 0 xnd_MO_init_28 rfl rfl ?_
  refine xf_bipush (hX.on rfl rfl) 31 rfl (32) xnd_MO_init_29 (by decide) ?_
  refine xg_newa hX 33 rfl (atype := .int) (ty := .int) rfl xkA_int 0 rfl (fun _ _ h => h) (32) (fun _ => rfl) rfl 32 (Nat.le_refl _) (by decide) (by decide) rfl rfl xnd_MO_init_31 (fun c4 => ?_)
  dsimp only [List.set, List.cons_append]
  refine xg_putF hX hI 36 rfl xin_MO xnK_MO xnO_MO xnM_MO 0 rfl rfl 8 (by decide) xk_MO_20 rfl rfl (xnO_MO 8 (by decide)) rfl rfl (Nat.le_of_ble_eq_true rfl) xnd_MO_init_33 ?_
  dsimp only [List.set, List.cons_append]
  refine xf_aload_n (hX.on rfl rfl) 37 rfl 0 xnd_MO_init_36 rfl rfl ?_
  refine xf_bipush (hX.on rfl rfl) 39 rfl (32) xnd_MO_init_37 (by decide) ?_
  refine xg_newa hX 41 rfl (atype := .int) (ty := .int) rfl xkA_int 0 rfl (fun _ _ h => h) (32) (fun _ => rfl) rfl 32 (Nat.le_refl _) (by decide) (by decide) rfl rfl xnd_MO_init_39 (fun c5 => ?_)
  dsimp only [List.set, List.cons_append]
  refine xg_putF hX hI 44 rfl xin_MO xnK_MO xnO_MO xnM_MO 0 rfl rfl 9 (by decide) xk_MO_23 rfl rfl (xnO_MO 9 (by decide)) rfl rfl (Nat.le_of_ble_eq_true rfl) xnd_MO_init_41 ?_
  dsimp only [List.set, List.cons_append]
  refine xf_aload_n (hX.on rfl rfl) 45 rfl 0 xnd_MO_init_44 rfl rfl ?_
  refine xf_bipush (hX.on rfl rfl) 47 rfl (32) xnd_MO_init_45 (by decide) ?_
  refine xg_newa hX 49 rfl (atype := .int) (ty := .int) rfl xkA_int 0 rfl (fun _ _ h => h) (32) (fun _ => rfl) rfl 32 (Nat.le_refl _) (by decide) (by decide) rfl rfl xnd_MO_init_47 (fun c6 => ?_)
  dsimp only [List.set, List.cons_append]
  refine xg_putF hX hI 52 rfl xin_MO xnK_MO xnO_MO xnM_MO 0 rfl rfl 10 (by decide) xk_MO_26 rfl rfl (xnO_MO 10 (by decide)) rfl rfl (Nat.le_of_ble_eq_true rfl) xnd_MO_init_49 ?_
  dsimp only [List.set, List.cons_append]
  refine xf_aload_n (hX.on rfl rfl) 53 rfl 0 xnd_MO_init_52 rfl rfl ?_
  refine xf_bipush (hX.on rfl rfl) 55 rfl (32) xnd_MO_init_53 (by decide) ?_
  refine xg_newa hX 57 rfl (atype := .boolean) (ty := .boolean) rfl xkA_boolean 1 rfl (fun _ _ h => h) (32) (fun _ => rfl) rfl 32 (Nat.le_refl _) (by decide) (by decide) rfl rfl xnd_MO_init_55 (fun c7 => ?_)
  dsimp only [List.set, List.cons_append]
  refine xg_putF hX hI 60 rfl xin_MO xnK_MO xnO_MO xnM_MO 0 rfl rfl 11 (by decide) xk_MO_29 rfl rfl (xnO_MO 11 (by decide)) rfl rfl (Nat.le_of_ble_eq_true rfl) xnd_MO_init_57 ?_
  dsimp only [List.set, List.cons_append]
  refine xf_aload_n (hX.on rfl rfl) 61 rfl 0 xnd_MO_init_60 rfl rfl ?_
  refine xf_iconst (hX.on rfl rfl) 62 rfl (4) xnd_MO_init_61 (by decide) ?_
  refine xg_newa hX 64 rfl (atype := .int) (ty := .int) rfl xkA_int 0 rfl (fun _ _ h => h) (4) (fun _ => rfl) rfl 4 (Nat.le_refl _) (by decide) (by decide) rfl rfl xnd_MO_init_62 (fun c8 => ?_)
  dsimp only [List.set, List.cons_append]
  refine xg_putF hX hI 67 rfl xin_MO xnK_MO xnO_MO xnM_MO 0 rfl rfl 12 (by decide) xk_MO_32 rfl rfl (xnO_MO 12 (by decide)) rfl rfl (Nat.le_of_ble_eq_true rfl) xnd_MO_init_64 ?_
  dsimp only [List.set, List.cons_append]
  refine xf_aload_n (hX.on rfl rfl) 68 rfl 0 xnd_MO_init_67 rfl rfl ?_
  refine xf_iconst (hX.on rfl rfl) 69 rfl (-1) xnd_MO_init_68 (by decide) ?_
  refine xg_put hX 72 rfl xin_MO xnK_MO xnO_MO xnM_MO 0 rfl rfl 14 (by decide) xk_MO_35 rfl (xnO_MO 14 (by decide)) rfl rfl (Nat.le_of_ble_eq_true rfl) xnd_MO_init_69 ?_
  dsimp only [List.set, List.cons_append]
  refine xf_aload_n (hX.on rfl rfl) 73 rfl 0 xnd_MO_init_72 rfl rfl ?_
  refine xf_iconst (hX.on rfl rfl) 74 rfl (5) xnd_MO_init_73 (by decide) ?_
  refine xg_newa hX 76 rfl (atype := .int) (ty := .int) rfl xkA_int 0 rfl (fun _ _ h => h) (5) (fun _ => rfl) rfl 5 (Nat.le_refl _) (by decide) (by decide) rfl rfl xnd_MO_init_74 (fun c9 => ?_)
  dsimp only [List.set, List.cons_append]
  refine xg_putF hX hI 79 rfl xin_MO xnK_MO xnO_MO xnM_MO 0 rfl rfl 23 (by decide) xk_MO_39 rfl rfl (xnO_MO 23 (by decide)) rfl rfl (Nat.le_of_ble_eq_true rfl) xnd_MO_init_76 ?_
  dsimp only [List.set, List.cons_append]
  refine xf_aload_n (hX.on rfl rfl) 80 rfl 0 xnd_MO_init_79 rfl rfl ?_
  refine xf_iconst (hX.on rfl rfl) 81 rfl (3) xnd_MO_init_80 (by decide) ?_
  refine xg_newa hX 83 rfl (atype := .int) (ty := .int) rfl xkA_int 0 rfl (fun _ _ h => h) (3) (fun _ => rfl) rfl 3 (Nat.le_refl _) (by decide) (by decide) rfl rfl xnd_MO_init_81 (fun c10 => ?_)
  dsimp only [List.set, List.cons_append]
  refine xg_putF hX hI 86 rfl xin_MO xnK_MO xnO_MO xnM_MO 0 rfl rfl 24 (by decide) xk_MO_42 rfl rfl (xnO_MO 24 (by decide)) rfl rfl (Nat.le_of_ble_eq_true rfl) xnd_MO_init_83 ?_
  dsimp only [List.set, List.cons_append]
  refine xf_aload_n (hX.on rfl rfl) 87 rfl 0 xnd_MO_init_86 rfl rfl ?_
  refine xf_iconst (hX.on rfl rfl) 88 rfl (3) xnd_MO_init_87 (by decide) ?_
  refine xg_newa hX 90 rfl (atype := .int) (ty := .int) rfl xkA_int 0 rfl (fun _ _ h => h) (3) (fun _ => rfl) rfl 3 (Nat.le_refl _) (by decide) (by decide) rfl rfl xnd_MO_init_88 (fun c11 => ?_)
  dsimp only [List.set, List.cons_append]
  refine xg_putF hX hI 93 rfl xin_MO xnK_MO xnO_MO xnM_MO 0 rfl rfl 25 (by decide) xk_MO_45 rfl rfl (xnO_MO 25 (by decide)) rfl rfl (Nat.le_of_ble_eq_true rfl) xnd_MO_init_90 ?_
  dsimp only [List.set, List.cons_append]
  refine xf_aload_n (hX.on rfl rfl) 94 rfl 0 xnd_MO_init_93 rfl rfl ?_
  refine xf_iconst (hX.on rfl rfl) 95 rfl (3) xnd_MO_init_94 (by decide) ?_
  refine xg_newa hX 97 rfl (atype := .int) (ty := .int) rfl xkA_int 0 rfl (fun _ _ h => h) (3) (fun _ => rfl) rfl 3 (Nat.le_refl _) (by decide) (by decide) rfl rfl xnd_MO_init_95 (fun c12 => ?_)
  dsimp only [List.set, List.cons_append]
  refine xg_putF hX hI 100 rfl xin_MO xnK_MO xnO_MO xnM_MO 0 rfl rfl 26 (by decide) xk_MO_48 rfl rfl (xnO_MO 26 (by decide)) rfl rfl (Nat.le_of_ble_eq_true rfl) xnd_MO_init_97 ?_
  dsimp only [List.set, List.cons_append]
  refine xf_aload_n (hX.on rfl rfl) 101 rfl 0 xnd_MO_init_100 rfl rfl ?_
  refine xf_iconst (hX.on rfl rfl) 102 rfl (3) xnd_MO_init_101 (by decide) ?_
  refine xg_newa hX 104 rfl (atype := .int) (ty := .int) rfl xkA_int 0 rfl (fun _ _ h => h) (3) (fun _ => rfl) rfl 3 (Nat.le_refl _) (by decide) (by decide) rfl rfl xnd_MO_init_102 (fun c13 => ?_)
  dsimp only [List.set, List.cons_append]
  refine xg_putF hX hI 107 rfl xin_MO xnK_MO xnO_MO xnM_MO 0 rfl rfl 27 (by decide) xk_MO_51 rfl rfl (xnO_MO 27 (by decide)) rfl rfl (Nat.le_of_ble_eq_true rfl) xnd_MO_init_104 ?_
  dsimp only [List.set, List.cons_append]
  refine xf_aload_n (hX.on rfl rfl) 108 rfl 0 xnd_MO_init_107 rfl rfl ?_
  refine xf_iconst (hX.on rfl rfl) 109 rfl (3) xnd_MO_init_108 (by decide) ?_
  refine xg_newa hX 111 rfl (atype := .int) (ty := .int) rfl xkA_int 0 rfl (fun _ _ h => h) (3) (fun _ => rfl) rfl 3 (Nat.le_refl _) (by decide) (by decide) rfl rfl xnd_MO_init_109 (fun c14 => ?_)
  dsimp only [List.set, List.cons_append]
  refine xg_putF hX hI 114 rfl xin_MO xnK_MO xnO_MO xnM_MO 0 rfl rfl 28 (by decide) xk_MO_54 rfl rfl (xnO_MO 28 (by decide)) rfl rfl (Nat.le_of_ble_eq_true rfl) xnd_MO_init_111 ?_
  dsimp only [List.set, List.cons_append]
  refine xf_aload_n (hX.on rfl rfl) 115 rfl 0 xnd_MO_init_114 rfl rfl ?_
  refine xf_iconst (hX.on rfl rfl) 116 rfl (3) xnd_MO_init_115 (by decide) ?_
  refine xg_newa hX 118 rfl (atype := .int) (ty := .int) rfl xkA_int 0 rfl (fun _ _ h => h) (3) (fun _ => rfl) rfl 3 (Nat.le_refl _) (by decide) (by decide) rfl rfl xnd_MO_init_116 (fun c15 => ?_)
  dsimp only [List.set, List.cons_append]
  refine xg_putF hX hI 121 rfl xin_MO xnK_MO xnO_MO xnM_MO 0 rfl rfl 29 (by decide) xk_MO_57 rfl rfl (xnO_MO 29 (by decide)) rfl rfl (Nat.le_of_ble_eq_true rfl) xnd_MO_init_118 ?_
  dsimp only [List.set, List.cons_append]
  refine xf_aload_n (hX.on rfl rfl) 122 rfl 0 xnd_MO_init_121 rfl rfl ?_
  refine xf_iconst (hX.on rfl rfl) 123 rfl (3) xnd_MO_init_122 (by decide) ?_
  refine xg_newa hX 125 rfl (atype := .int) (ty := .int) rfl xkA_int 0 rfl (fun _ _ h => h) (3) (fun _ => rfl) rfl 3 (Nat.le_refl _) (by decide) (by decide) rfl rfl xnd_MO_init_123 (fun c16 => ?_)
  dsimp only [List.set, List.cons_append]
  refine xg_putF hX hI 128 rfl xin_MO xnK_MO xnO_MO xnM_MO 0 rfl rfl 30 (by decide) xk_MO_60 rfl rfl (xnO_MO 30 (by decide)) rfl rfl (Nat.le_of_ble_eq_true rfl) xnd_MO_init_125 ?_
  dsimp only [List.set, List.cons_append]
  refine xf_aload_n (hX.on rfl rfl) 129 rfl 0 xnd_MO_init_128 rfl rfl ?_
  refine xf_iconst (hX.on rfl rfl) 130 rfl (3) xnd_MO_init_129 (by decide) ?_
  refine xg_newa hX 132 rfl (atype := .int) (ty := .int) rfl xkA_int 0 rfl (fun _ _ h => h) (3) (fun _ => rfl) rfl 3 (Nat.le_refl _) (by decide) (by decide) rfl rfl xnd_MO_init_130 (fun c17 => ?_)
  dsimp only [List.set, List.cons_append]
  refine xg_putF hX hI 135 rfl xin_MO xnK_MO xnO_MO xnM_MO 0 rfl rfl 31 (by decide) xk_MO_63 rfl rfl (xnO_MO 31 (by decide)) rfl rfl (Nat.le_of_ble_eq_true rfl) xnd_MO_init_132 ?_
  dsimp only [List.set, List.cons_append]
  refine xf_aload_n (hX.on rfl rfl) 136 rfl 0 xnd_MO_init_135 rfl rfl ?_
  suffices hT : ∀ v : Int32, v = nI (xh_n it) → xf_V (xf_re X _ _ _) 153 [some (.ref a), some (.int it), some (.int wy)] [.int v, .ref a] xg_0 by
    refine xf_iload_n (hX.on rfl rfl) 137 rfl 1 xnd_MO_init_136 rfl rfl ?_
    refine xf_iconst (hX.on rfl rfl) 138 rfl (1) xnd_MO_init_137 (by decide) ?_
    refine xf_icmp_lt (hX.on rfl rfl) 141 rfl 147 xnd_MO_init_138 (by decide) (fun h1 => ?_) (fun h1 => ?_)
    · refine xf_bipush (hX.on rfl rfl) 149 rfl (12) xnd_MO_init_147 (by decide) ?_
      refine xf_goto (hX.on rfl rfl) 153 xnd_MO_init_149 (by decide) ?_
      exact hT _ (xh_n12 (by rw [xr_isW, if_pos h1]))
    · refine xf_iload_n (hX.on rfl rfl) 142 rfl 1 xnd_MO_init_141 rfl rfl ?_
      refine xf_bipush (hX.on rfl rfl) 144 rfl (32) xnd_MO_init_142 (by decide) ?_
      refine xf_icmp_le (hX.on rfl rfl) 147 rfl 152 xnd_MO_init_144 (by decide) (fun h2 => ?_) (fun h2 => ?_)
      · refine xf_iload_n (hX.on rfl rfl) 153 rfl 1 xnd_MO_init_152 rfl rfl ?_
        exact hT _ (xh_nit (by rw [xr_isW, if_neg h1, if_pos h2]; decide))
      · refine xf_bipush (hX.on rfl rfl) 149 rfl (12) xnd_MO_init_147 (by decide) ?_
        refine xf_goto (hX.on rfl rfl) 153 xnd_MO_init_149 (by decide) ?_
        exact hT _ (xh_n12 (by rw [xr_isW, if_neg h1, if_neg h2]))
  intro v hv
  subst hv
  refine xg_put hX 156 rfl xin_MO xnK_MO xnO_MO xnM_MO 0 rfl rfl 0 (by decide) xk_MO_66 rfl (xnO_MO 0 (by decide)) rfl rfl (Nat.le_of_ble_eq_true rfl) xnd_MO_init_153 ?_
  dsimp only [List.set, List.cons_append]
  refine xf_aload_n (hX.on rfl rfl) 157 rfl 0 xnd_MO_init_156 rfl rfl ?_
  suffices hT : ∀ v : Int32, v = nI (xh_w wy) → xf_V (xf_re X _ _ _) 172 [some (.ref a), some (.int it), some (.int wy)] [.int v, .ref a] xg_0 by
    refine xf_iload_n (hX.on rfl rfl) 158 rfl 2 xnd_MO_init_157 rfl rfl ?_
    refine xf_iconst (hX.on rfl rfl) 159 rfl (1) xnd_MO_init_158 (by decide) ?_
    refine xf_icmp_lt (hX.on rfl rfl) 162 rfl 167 xnd_MO_init_159 (by decide) (fun h1 => ?_) (fun h1 => ?_)
    · refine xf_iconst (hX.on rfl rfl) 168 rfl (2) xnd_MO_init_167 (by decide) ?_
      refine xf_goto (hX.on rfl rfl) 172 xnd_MO_init_168 (by decide) ?_
      exact hT _ (xh_w2 (by rw [xr_isW, if_pos h1]))
    · refine xf_iload_n (hX.on rfl rfl) 163 rfl 2 xnd_MO_init_162 rfl rfl ?_
      refine xf_iconst (hX.on rfl rfl) 164 rfl (4) xnd_MO_init_163 (by decide) ?_
      refine xf_icmp_le (hX.on rfl rfl) 167 rfl 171 xnd_MO_init_164 (by decide) (fun h2 => ?_) (fun h2 => ?_)
      · refine xf_iload_n (hX.on rfl rfl) 172 rfl 2 xnd_MO_init_171 rfl rfl ?_
        exact hT _ (xh_wit (by rw [xr_isW, if_neg h1, if_pos h2]; decide))
      · refine xf_iconst (hX.on rfl rfl) 168 rfl (2) xnd_MO_init_167 (by decide) ?_
        refine xf_goto (hX.on rfl rfl) 172 xnd_MO_init_168 (by decide) ?_
        exact hT _ (xh_w2 (by rw [xr_isW, if_neg h1, if_neg h2]))
  intro v hv
  subst hv
  refine xg_put hX 175 rfl xin_MO xnK_MO xnO_MO xnM_MO 0 rfl rfl 1 (by decide) xk_MO_69 rfl (xnO_MO 1 (by decide)) rfl rfl (Nat.le_of_ble_eq_true rfl) xnd_MO_init_172 ?_
  dsimp only [List.set, List.cons_append]
  exact xg_ret hX hE rfl rfl xnd_MO_init_175 ⟨c1, c2, c3, c4, c5, c6, c7, c8, c9, c10, c11, c12, c13, c14, c15, c16, c17, rfl⟩
