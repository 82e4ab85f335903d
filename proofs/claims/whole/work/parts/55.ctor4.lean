/-! The class's constructors: store, path, writer. -/
set_option maxRecDepth 100000 in
set_option maxHeartbeats 400000 in
theorem xh_ST (l : Launch) (D : va_G) (cI cZ cR : ClassId) (x ta st n w : Nat) (hn : n ≤ 32) (hw : w ≤ 4) : xg_M l xny_ST_init xnc_ST_init 4 1 23 8 228 D [(cI, .int), (cZ, .boolean), (cR, .object xnR_RD)] [.ref st, .int (nI n), .int (nI w), .ref ta] [(x, .inr (0, [.ref ta, .null, .null, .null])), (ta, .inr (1, [.int 0, .int 0, .int 0, .int 0, .int 0, .int 0])), (st, .inr (2, [.null, .int 0, .int 0, .null, .null, .null, .null, .null, .null, .null, .null, .int 0, .int 0, .int 0]))] (fun w1 => ∃ pl ke va to ex bi us ve : Nat, w1 = [(x, .inr (0, [.ref ta, .null, .null, .null])), (ta, .inr (1, [.int 0, .int 0, .int 0, .int 0, .int 0, .int 0])), (st, .inr (2, [.ref ta, .int (nI n), .int (nI w), .ref pl, .ref ke, .ref va, .ref to, .ref ex, .ref bi, .ref us, .ref ve, .int 0, .int 0, .int 0])), (pl, .inl (cI, 8 * w, .inl (fun p => if p < 8 * w then -1 else 0))), (ke, .inl (cI, n, .inl (fun _ => 0))), (va, .inl (cI, n, .inl (fun _ => 0))), (to, .inl (cI, n, .inl (fun _ => 0))), (ex, .inl (cI, n, .inl (fun _ => 0))), (bi, .inl (cZ, n, .inl (fun _ => 0))), (us, .inl (cZ, n, .inl (fun _ => 0))), (ve, .inl (cI, 4, .inl (fun _ => 0)))]) := by
  refine xg_start (own := xnR_ST) [some (.ref st), some (.int (nI n)), some (.int (nI w)), some (.ref ta)] rfl rfl (by decide) (Nat.le_of_ble_eq_true rfl) rfl (xf_cat rfl) ?_
  intro X hX hI hE
  refine xf_aload_n (hX.on rfl rfl) 1 rfl 0 xnd_ST_init_0 rfl rfl ?_
  refine xg_objInit hX 4 rfl xkO_ST xkO_i xkO_c rfl rfl xnd_ST_init_1 ?_
  refine xf_aload_n (hX.on rfl rfl) 5 rfl 0 xnd_ST_init_4 rfl rfl ?_
  refine xf_aload_n (hX.on rfl rfl) 6 rfl 3 xnd_ST_init_5 rfl rfl ?_
  refine xg_putF hX hI 9 rfl xin_ST xnK_ST xnO_ST xnM_ST 2 rfl rfl 0 (by decide) xk_ST_9 rfl rfl (xnO_ST 0 (by decide)) rfl rfl (Nat.le_of_ble_eq_true rfl) xnd_ST_init_6 ?_
  dsimp only [List.set, List.cons_append, List.nil_append]
  refine xf_aload_n (hX.on rfl rfl) 10 rfl 0 xnd_ST_init_9 rfl rfl ?_
  refine xf_iload_n (hX.on rfl rfl) 11 rfl 1 xnd_ST_init_10 rfl rfl ?_
  refine xg_putF hX hI 14 rfl xin_ST xnK_ST xnO_ST xnM_ST 2 rfl rfl 1 (by decide) xk_ST_15 rfl rfl (xnO_ST 1 (by decide)) rfl rfl (Nat.le_of_ble_eq_true rfl) xnd_ST_init_11 ?_
  dsimp only [List.set, List.cons_append, List.nil_append]
  refine xf_aload_n (hX.on rfl rfl) 15 rfl 0 xnd_ST_init_14 rfl rfl ?_
  refine xf_iload_n (hX.on rfl rfl) 16 rfl 2 xnd_ST_init_15 rfl rfl ?_
  refine xg_putF hX hI 19 rfl xin_ST xnK_ST xnO_ST xnM_ST 2 rfl rfl 2 (by decide) xk_ST_19 rfl rfl (xnO_ST 2 (by decide)) rfl rfl (Nat.le_of_ble_eq_true rfl) xnd_ST_init_16 ?_
  dsimp only [List.set, List.cons_append, List.nil_append]
  refine xf_aload_n (hX.on rfl rfl) 20 rfl 0 xnd_ST_init_19 rfl rfl ?_
  refine xf_bipush (hX.on rfl rfl) 22 rfl (8) xnd_ST_init_20 (by decide) ?_
  refine xf_iload_n (hX.on rfl rfl) 23 rfl 2 xnd_ST_init_22 rfl rfl ?_
  refine xf_imul (hX.on rfl rfl) 24 rfl xnd_ST_init_23 ?_
  refine xg_newa hX 26 rfl (atype := .int) (ty := .int) rfl xkA_int 0 rfl (fun _ _ h => h) (8 * w) (fun _ => rfl) (by rw [show (8 : Int32) = nI 8 from rfl, pk_mul]) 32 (by omega) (by decide) (by decide) rfl rfl xnd_ST_init_24 (fun pl => ?_)
  dsimp only [List.set, List.cons_append, List.nil_append]
  refine xg_putF hX hI 29 rfl xin_ST xnK_ST xnO_ST xnM_ST 2 rfl rfl 3 (by decide) xk_ST_22 rfl rfl (xnO_ST 3 (by decide)) rfl rfl (Nat.le_of_ble_eq_true rfl) xnd_ST_init_26 ?_
  dsimp only [List.set, List.cons_append, List.nil_append]
  refine xf_aload_n (hX.on rfl rfl) 30 rfl 0 xnd_ST_init_29 rfl rfl ?_
  refine xf_get (hX.on rfl rfl) 33 rfl xin_ST 2 rfl rfl 3 (by decide) xk_ST_22 rfl xnd_ST_init_30 ?_
  refine xf_iconst (hX.on rfl rfl) 34 rfl (-1) xnd_ST_init_33 (by decide) ?_
  refine xg_fill hX 37 rfl 3 rfl (by omega) rfl rfl rfl rfl rfl xnd_ST_init_34 ?_
  dsimp only [List.set, List.cons_append, List.nil_append]
  refine xf_aload_n (hX.on rfl rfl) 38 rfl 0 xnd_ST_init_37 rfl rfl ?_
  refine xf_iload_n (hX.on rfl rfl) 39 rfl 1 xnd_ST_init_38 rfl rfl ?_
  refine xg_newa hX 41 rfl (atype := .int) (ty := .int) rfl xkA_int 0 rfl (fun _ _ h => h) (n) (fun _ => rfl) rfl 32 hn (by decide) (by decide) rfl rfl xnd_ST_init_39 (fun ke => ?_)
  dsimp only [List.set, List.cons_append, List.nil_append]
  refine xg_putF hX hI 44 rfl xin_ST xnK_ST xnO_ST xnM_ST 2 rfl rfl 4 (by decide) xk_ST_32 rfl rfl (xnO_ST 4 (by decide)) rfl rfl (Nat.le_of_ble_eq_true rfl) xnd_ST_init_41 ?_
  dsimp only [List.set, List.cons_append, List.nil_append]
  refine xf_aload_n (hX.on rfl rfl) 45 rfl 0 xnd_ST_init_44 rfl rfl ?_
  refine xf_iload_n (hX.on rfl rfl) 46 rfl 1 xnd_ST_init_45 rfl rfl ?_
  refine xg_newa hX 48 rfl (atype := .int) (ty := .int) rfl xkA_int 0 rfl (fun _ _ h => h) (n) (fun _ => rfl) rfl 32 hn (by decide) (by decide) rfl rfl xnd_ST_init_46 (fun va => ?_)
  dsimp only [List.set, List.cons_append, List.nil_append]
  refine xg_putF hX hI 51 rfl xin_ST xnK_ST xnO_ST xnM_ST 2 rfl rfl 5 (by decide) xk_ST_35 rfl rfl (xnO_ST 5 (by decide)) rfl rfl (Nat.le_of_ble_eq_true rfl) xnd_ST_init_48 ?_
  dsimp only [List.set, List.cons_append, List.nil_append]
  refine xf_aload_n (hX.on rfl rfl) 52 rfl 0 xnd_ST_init_51 rfl rfl ?_
  refine xf_iload_n (hX.on rfl rfl) 53 rfl 1 xnd_ST_init_52 rfl rfl ?_
  refine xg_newa hX 55 rfl (atype := .int) (ty := .int) rfl xkA_int 0 rfl (fun _ _ h => h) (n) (fun _ => rfl) rfl 32 hn (by decide) (by decide) rfl rfl xnd_ST_init_53 (fun to => ?_)
  dsimp only [List.set, List.cons_append, List.nil_append]
  refine xg_putF hX hI 58 rfl xin_ST xnK_ST xnO_ST xnM_ST 2 rfl rfl 6 (by decide) xk_ST_38 rfl rfl (xnO_ST 6 (by decide)) rfl rfl (Nat.le_of_ble_eq_true rfl) xnd_ST_init_55 ?_
  dsimp only [List.set, List.cons_append, List.nil_append]
  refine xf_aload_n (hX.on rfl rfl) 59 rfl 0 xnd_ST_init_58 rfl rfl ?_
  refine xf_iload_n (hX.on rfl rfl) 60 rfl 1 xnd_ST_init_59 rfl rfl ?_
  refine xg_newa hX 62 rfl (atype := .int) (ty := .int) rfl xkA_int 0 rfl (fun _ _ h => h) (n) (fun _ => rfl) rfl 32 hn (by decide) (by decide) rfl rfl xnd_ST_init_60 (fun ex => ?_)
  dsimp only [List.set, List.cons_append, List.nil_append]
  refine xg_putF hX hI 65 rfl xin_ST xnK_ST xnO_ST xnM_ST 2 rfl rfl 7 (by decide) xk_ST_41 rfl rfl (xnO_ST 7 (by decide)) rfl rfl (Nat.le_of_ble_eq_true rfl) xnd_ST_init_62 ?_
  dsimp only [List.set, List.cons_append, List.nil_append]
  refine xf_aload_n (hX.on rfl rfl) 66 rfl 0 xnd_ST_init_65 rfl rfl ?_
  refine xf_iload_n (hX.on rfl rfl) 67 rfl 1 xnd_ST_init_66 rfl rfl ?_
  refine xg_newa hX 69 rfl (atype := .boolean) (ty := .boolean) rfl xkA_boolean 1 rfl (fun _ _ h => h) (n) (fun _ => rfl) rfl 32 hn (by decide) (by decide) rfl rfl xnd_ST_init_67 (fun bi => ?_)
  dsimp only [List.set, List.cons_append, List.nil_append]
  refine xg_putF hX hI 72 rfl xin_ST xnK_ST xnO_ST xnM_ST 2 rfl rfl 8 (by decide) xk_ST_44 rfl rfl (xnO_ST 8 (by decide)) rfl rfl (Nat.le_of_ble_eq_true rfl) xnd_ST_init_69 ?_
  dsimp only [List.set, List.cons_append, List.nil_append]
  refine xf_aload_n (hX.on rfl rfl) 73 rfl 0 xnd_ST_init_72 rfl rfl ?_
  refine xf_iload_n (hX.on rfl rfl) 74 rfl 1 xnd_ST_init_73 rfl rfl ?_
  refine xg_newa hX 76 rfl (atype := .boolean) (ty := .boolean) rfl xkA_boolean 1 rfl (fun _ _ h => h) (n) (fun _ => rfl) rfl 32 hn (by decide) (by decide) rfl rfl xnd_ST_init_74 (fun us => ?_)
  dsimp only [List.set, List.cons_append, List.nil_append]
  refine xg_putF hX hI 79 rfl xin_ST xnK_ST xnO_ST xnM_ST 2 rfl rfl 9 (by decide) xk_ST_48 rfl rfl (xnO_ST 9 (by decide)) rfl rfl (Nat.le_of_ble_eq_true rfl) xnd_ST_init_76 ?_
  dsimp only [List.set, List.cons_append, List.nil_append]
  refine xf_aload_n (hX.on rfl rfl) 80 rfl 0 xnd_ST_init_79 rfl rfl ?_
  refine xf_iconst (hX.on rfl rfl) 81 rfl (4) xnd_ST_init_80 (by decide) ?_
  refine xg_newa hX 83 rfl (atype := .int) (ty := .int) rfl xkA_int 0 rfl (fun _ _ h => h) (4) (fun _ => rfl) rfl 4 (Nat.le_refl _) (by decide) (by decide) rfl rfl xnd_ST_init_81 (fun ve => ?_)
  dsimp only [List.set, List.cons_append, List.nil_append]
  refine xg_putF hX hI 86 rfl xin_ST xnK_ST xnO_ST xnM_ST 2 rfl rfl 10 (by decide) xk_ST_51 rfl rfl (xnO_ST 10 (by decide)) rfl rfl (Nat.le_of_ble_eq_true rfl) xnd_ST_init_83 ?_
  dsimp only [List.set, List.cons_append, List.nil_append]
  exact xg_ret hX hE rfl rfl xnd_ST_init_86 ⟨pl, ke, va, to, ex, bi, us, ve, rfl⟩
set_option maxRecDepth 100000 in
set_option maxHeartbeats 400000 in
theorem xh_PA (l : Launch) (D : va_G) (cI cZ cR : ClassId) (x ta st pl ke va to ex bi us ve wr pa n w : Nat) (hw : w ≤ 4) : xg_M l xny_PA_init xnc_PA_init 2 1 12 4 101 D [(cI, .int), (cZ, .boolean), (cR, .object xnR_RD)] [.ref pa, .ref st] [(x, .inr (0, [.ref ta, .ref st, .null, .null])), (ta, .inr (1, [.int 0, .int 0, .int 0, .int 0, .int 0, .int 0])), (st, .inr (2, [.ref ta, .int (nI n), .int (nI w), .ref pl, .ref ke, .ref va, .ref to, .ref ex, .ref bi, .ref us, .ref ve, .int 0, .int 0, .int 0])), (pl, .inl (cI, 8 * w, .inl (fun p => if p < 8 * w then -1 else 0))), (ke, .inl (cI, n, .inl (fun _ => 0))), (va, .inl (cI, n, .inl (fun _ => 0))), (to, .inl (cI, n, .inl (fun _ => 0))), (ex, .inl (cI, n, .inl (fun _ => 0))), (bi, .inl (cZ, n, .inl (fun _ => 0))), (us, .inl (cZ, n, .inl (fun _ => 0))), (ve, .inl (cI, 4, .inl (fun _ => 0))), (wr, .inr (3, [.ref st, .ref ta, .null, .int 0, .int 0, .int 0, .int 0, .int 0, .int 0, .int 0, .int 0, .int 0, .int 0])), (pa, .inr (4, [.null, .null, .int 0, .null, .null, .null, .int 0]))] (fun w1 => ∃ so qu be de : Nat, w1 = [(x, .inr (0, [.ref ta, .ref st, .null, .null])), (ta, .inr (1, [.int 0, .int 0, .int 0, .int 0, .int 0, .int 0])), (st, .inr (2, [.ref ta, .int (nI n), .int (nI w), .ref pl, .ref ke, .ref va, .ref to, .ref ex, .ref bi, .ref us, .ref ve, .int 0, .int 0, .int 0])), (pl, .inl (cI, 8 * w, .inl (fun p => if p < 8 * w then -1 else 0))), (ke, .inl (cI, n, .inl (fun _ => 0))), (va, .inl (cI, n, .inl (fun _ => 0))), (to, .inl (cI, n, .inl (fun _ => 0))), (ex, .inl (cI, n, .inl (fun _ => 0))), (bi, .inl (cZ, n, .inl (fun _ => 0))), (us, .inl (cZ, n, .inl (fun _ => 0))), (ve, .inl (cI, 4, .inl (fun _ => 0))), (wr, .inr (3, [.ref st, .ref ta, .null, .int 0, .int 0, .int 0, .int 0, .int 0, .int 0, .int 0, .int 0, .int 0, .int 0])), (pa, .inr (4, [.ref st, .ref so, .int 0, .ref qu, .ref be, .ref de, .int 0])), (so, .inl (cI, 5, .inl (fun _ => 0))), (qu, .inl (cI, 8 * w, .inl (fun _ => 0))), (be, .inl (cI, 8 * w, .inl (fun _ => 0))), (de, .inl (cI, 8 * w, .inl (fun _ => 0)))]) := by
  refine xg_start (own := xnR_PA) [some (.ref pa), some (.ref st)] rfl rfl (by decide) (Nat.le_of_ble_eq_true rfl) rfl (xf_cat rfl) ?_
  intro X hX hI hE
  refine xf_aload_n (hX.on rfl rfl) 1 rfl 0 xnd_PA_init_0 rfl rfl ?_
  refine xg_objInit hX 4 rfl xkO_PA xkO_i xkO_c rfl rfl xnd_PA_init_1 ?_
  refine xf_aload_n (hX.on rfl rfl) 5 rfl 0 xnd_PA_init_4 rfl rfl ?_
  refine xf_aload_n (hX.on rfl rfl) 6 rfl 1 xnd_PA_init_5 rfl rfl ?_
  refine xg_putF hX hI 9 rfl xin_PA xnK_PA xnO_PA xnM_PA 12 rfl rfl 0 (by decide) xk_PA_9 rfl rfl (xnO_PA 0 (by decide)) rfl rfl (Nat.le_of_ble_eq_true rfl) xnd_PA_init_6 ?_
  dsimp only [List.set, List.cons_append, List.nil_append]
  refine xf_aload_n (hX.on rfl rfl) 10 rfl 0 xnd_PA_init_9 rfl rfl ?_
  refine xf_iconst (hX.on rfl rfl) 11 rfl (5) xnd_PA_init_10 (by decide) ?_
  refine xg_newa hX 13 rfl (atype := .int) (ty := .int) rfl xkA_int 0 rfl (fun _ _ h => h) (5) (fun _ => rfl) rfl 5 (Nat.le_refl _) (by decide) (by decide) rfl rfl xnd_PA_init_11 (fun so => ?_)
  dsimp only [List.set, List.cons_append, List.nil_append]
  refine xg_putF hX hI 16 rfl xin_PA xnK_PA xnO_PA xnM_PA 12 rfl rfl 1 (by decide) xk_PA_15 rfl rfl (xnO_PA 1 (by decide)) rfl rfl (Nat.le_of_ble_eq_true rfl) xnd_PA_init_13 ?_
  dsimp only [List.set, List.cons_append, List.nil_append]
  refine xf_aload_n (hX.on rfl rfl) 17 rfl 0 xnd_PA_init_16 rfl rfl ?_
  refine xf_aload_n (hX.on rfl rfl) 18 rfl 1 xnd_PA_init_17 rfl rfl ?_
  refine xf_get (hX.on rfl rfl) 21 rfl xin_ST 2 rfl rfl 3 (by decide) xk_PA_19 rfl xnd_PA_init_18 ?_
  refine xf_alen (hX.on rfl rfl) 22 rfl 3 0 rfl rfl (v := nI (8 * w)) rfl xnd_PA_init_21 ?_
  refine xg_newa hX 24 rfl (atype := .int) (ty := .int) rfl xkA_int 0 rfl (fun _ _ h => h) (8 * w) (fun _ => rfl) rfl 32 (by omega) (by decide) (by decide) rfl rfl xnd_PA_init_22 (fun qu => ?_)
  dsimp only [List.set, List.cons_append, List.nil_append]
  refine xg_putF hX hI 27 rfl xin_PA xnK_PA xnO_PA xnM_PA 12 rfl rfl 3 (by decide) xk_PA_24 rfl rfl (xnO_PA 3 (by decide)) rfl rfl (Nat.le_of_ble_eq_true rfl) xnd_PA_init_24 ?_
  dsimp only [List.set, List.cons_append, List.nil_append]
  refine xf_aload_n (hX.on rfl rfl) 28 rfl 0 xnd_PA_init_27 rfl rfl ?_
  refine xf_aload_n (hX.on rfl rfl) 29 rfl 1 xnd_PA_init_28 rfl rfl ?_
  refine xf_get (hX.on rfl rfl) 32 rfl xin_ST 2 rfl rfl 3 (by decide) xk_PA_19 rfl xnd_PA_init_29 ?_
  refine xf_alen (hX.on rfl rfl) 33 rfl 3 0 rfl rfl (v := nI (8 * w)) rfl xnd_PA_init_32 ?_
  refine xg_newa hX 35 rfl (atype := .int) (ty := .int) rfl xkA_int 0 rfl (fun _ _ h => h) (8 * w) (fun _ => rfl) rfl 32 (by omega) (by decide) (by decide) rfl rfl xnd_PA_init_33 (fun be => ?_)
  dsimp only [List.set, List.cons_append, List.nil_append]
  refine xg_putF hX hI 38 rfl xin_PA xnK_PA xnO_PA xnM_PA 12 rfl rfl 4 (by decide) xk_PA_27 rfl rfl (xnO_PA 4 (by decide)) rfl rfl (Nat.le_of_ble_eq_true rfl) xnd_PA_init_35 ?_
  dsimp only [List.set, List.cons_append, List.nil_append]
  refine xf_aload_n (hX.on rfl rfl) 39 rfl 0 xnd_PA_init_38 rfl rfl ?_
  refine xf_aload_n (hX.on rfl rfl) 40 rfl 1 xnd_PA_init_39 rfl rfl ?_
  refine xf_get (hX.on rfl rfl) 43 rfl xin_ST 2 rfl rfl 3 (by decide) xk_PA_19 rfl xnd_PA_init_40 ?_
  refine xf_alen (hX.on rfl rfl) 44 rfl 3 0 rfl rfl (v := nI (8 * w)) rfl xnd_PA_init_43 ?_
  refine xg_newa hX 46 rfl (atype := .int) (ty := .int) rfl xkA_int 0 rfl (fun _ _ h => h) (8 * w) (fun _ => rfl) rfl 32 (by omega) (by decide) (by decide) rfl rfl xnd_PA_init_44 (fun de => ?_)
  dsimp only [List.set, List.cons_append, List.nil_append]
  refine xg_putF hX hI 49 rfl xin_PA xnK_PA xnO_PA xnM_PA 12 rfl rfl 5 (by decide) xk_PA_30 rfl rfl (xnO_PA 5 (by decide)) rfl rfl (Nat.le_of_ble_eq_true rfl) xnd_PA_init_46 ?_
  dsimp only [List.set, List.cons_append, List.nil_append]
  exact xg_ret hX hE rfl rfl xnd_PA_init_49 ⟨so, qu, be, de, rfl⟩
set_option maxRecDepth 100000 in
set_option maxHeartbeats 400000 in
theorem xh_WR (l : Launch) (D : va_G) (cI cZ cR : ClassId) (x ta st pl ke va to ex bi us ve wr n w : Nat) (hw : w ≤ 4) : xg_M l xny_WR_init xnc_WR_init 3 2 33 5 108 D [(cI, .int), (cZ, .boolean), (cR, .object xnR_RD)] [.ref wr, .ref st, .ref ta] [(x, .inr (0, [.ref ta, .ref st, .null, .null])), (ta, .inr (1, [.int 0, .int 0, .int 0, .int 0, .int 0, .int 0])), (st, .inr (2, [.ref ta, .int (nI n), .int (nI w), .ref pl, .ref ke, .ref va, .ref to, .ref ex, .ref bi, .ref us, .ref ve, .int 0, .int 0, .int 0])), (pl, .inl (cI, 8 * w, .inl (fun p => if p < 8 * w then -1 else 0))), (ke, .inl (cI, n, .inl (fun _ => 0))), (va, .inl (cI, n, .inl (fun _ => 0))), (to, .inl (cI, n, .inl (fun _ => 0))), (ex, .inl (cI, n, .inl (fun _ => 0))), (bi, .inl (cZ, n, .inl (fun _ => 0))), (us, .inl (cZ, n, .inl (fun _ => 0))), (ve, .inl (cI, 4, .inl (fun _ => 0))), (wr, .inr (3, [.null, .null, .null, .int 0, .int 0, .int 0, .int 0, .int 0, .int 0, .int 0, .int 0, .int 0, .int 0]))] (fun w1 => ∃ pa so qu be de : Nat, w1 = [(x, .inr (0, [.ref ta, .ref st, .null, .null])), (ta, .inr (1, [.int 0, .int 0, .int 0, .int 0, .int 0, .int 0])), (st, .inr (2, [.ref ta, .int (nI n), .int (nI w), .ref pl, .ref ke, .ref va, .ref to, .ref ex, .ref bi, .ref us, .ref ve, .int 0, .int 0, .int 0])), (pl, .inl (cI, 8 * w, .inl (fun p => if p < 8 * w then -1 else 0))), (ke, .inl (cI, n, .inl (fun _ => 0))), (va, .inl (cI, n, .inl (fun _ => 0))), (to, .inl (cI, n, .inl (fun _ => 0))), (ex, .inl (cI, n, .inl (fun _ => 0))), (bi, .inl (cZ, n, .inl (fun _ => 0))), (us, .inl (cZ, n, .inl (fun _ => 0))), (ve, .inl (cI, 4, .inl (fun _ => 0))), (wr, .inr (3, [.ref st, .ref ta, .ref pa, .int (-1), .int 0, .int 0, .int 0, .int 0, .int 0, .int 0, .int 0, .int 0, .int 0])), (pa, .inr (4, [.ref st, .ref so, .int 0, .ref qu, .ref be, .ref de, .int 0])), (so, .inl (cI, 5, .inl (fun _ => 0))), (qu, .inl (cI, 8 * w, .inl (fun _ => 0))), (be, .inl (cI, 8 * w, .inl (fun _ => 0))), (de, .inl (cI, 8 * w, .inl (fun _ => 0)))]) := by
  refine xg_start (own := xnR_WR) [some (.ref wr), some (.ref st), some (.ref ta)] rfl rfl (by decide) (Nat.le_of_ble_eq_true rfl) rfl (xf_cat rfl) ?_
  intro X hX hI hE
  refine xf_aload_n (hX.on rfl rfl) 1 rfl 0 xnd_WR_init_0 rfl rfl ?_
  refine xg_objInit hX 4 rfl xkO_WR xkO_i xkO_c rfl rfl xnd_WR_init_1 ?_
  refine xf_aload_n (hX.on rfl rfl) 5 rfl 0 xnd_WR_init_4 rfl rfl ?_
  refine xf_aload_n (hX.on rfl rfl) 6 rfl 1 xnd_WR_init_5 rfl rfl ?_
  refine xg_putF hX hI 9 rfl xin_WR xnK_WR xnO_WR xnM_WR 11 rfl rfl 0 (by decide) xk_WR_9 rfl rfl (xnO_WR 0 (by decide)) rfl rfl (Nat.le_of_ble_eq_true rfl) xnd_WR_init_6 ?_
  dsimp only [List.set, List.cons_append, List.nil_append]
  refine xf_aload_n (hX.on rfl rfl) 10 rfl 0 xnd_WR_init_9 rfl rfl ?_
  refine xf_aload_n (hX.on rfl rfl) 11 rfl 2 xnd_WR_init_10 rfl rfl ?_
  refine xg_putF hX hI 14 rfl xin_WR xnK_WR xnO_WR xnM_WR 11 rfl rfl 1 (by decide) xk_WR_15 rfl rfl (xnO_WR 1 (by decide)) rfl rfl (Nat.le_of_ble_eq_true rfl) xnd_WR_init_11 ?_
  dsimp only [List.set, List.cons_append, List.nil_append]
  refine xf_aload_n (hX.on rfl rfl) 15 rfl 0 xnd_WR_init_14 rfl rfl ?_
  refine xg_new hX 18 rfl (ci := 4) xin_PA xnK_PA xnO_PA xkC_WR_19 xkI_PA xkZ_PA rfl xz_PA rfl rfl xnd_WR_init_15 (fun pa => ?_)
  dsimp only [List.set, List.cons_append, List.nil_append]
  refine xf_dup (hX.on rfl rfl) 19 rfl xnd_WR_init_18 rfl ?_
  refine xf_aload_n (hX.on rfl rfl) 20 rfl 1 xnd_WR_init_19 rfl rfl ?_
  refine xg_callI hX 23 rfl [.ref st] [.ref pa, .ref wr] (xh_PA l D cI cZ cR x ta st pl ke va to ex bi us ve wr pa n w hw) xgi_PA xk_WR_21 rfl rfl rfl rfl rfl rfl xnd_WR_init_20 ?_
  intro w1 hw1
  obtain ⟨so, qu, be, de, rfl⟩ := hw1
  refine xg_putF hX hI 26 rfl xin_WR xnK_WR xnO_WR xnM_WR 11 rfl rfl 2 (by decide) xk_WR_24 rfl rfl (xnO_WR 2 (by decide)) rfl rfl (Nat.le_of_ble_eq_true rfl) xnd_WR_init_23 ?_
  dsimp only [List.set, List.cons_append, List.nil_append]
  refine xf_aload_n (hX.on rfl rfl) 27 rfl 0 xnd_WR_init_26 rfl rfl ?_
  refine xf_iconst (hX.on rfl rfl) 28 rfl (-1) xnd_WR_init_27 (by decide) ?_
  refine xg_put hX 31 rfl xin_WR xnK_WR xnO_WR xnM_WR 11 rfl rfl 3 (by decide) xk_WR_28 rfl (xnO_WR 3 (by decide)) rfl rfl (Nat.le_of_ble_eq_true rfl) xnd_WR_init_28 ?_
  dsimp only [List.set, List.cons_append, List.nil_append]
  exact xg_ret hX hE rfl rfl xnd_WR_init_31 ⟨pa, so, qu, be, de, rfl⟩
