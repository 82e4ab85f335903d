/-! Constructors. -/
def xh_n (it : Int32) : Nat := if xs_isW it 1 32 = 0 then 12 else it.toNatClampNeg
def xh_w (wy : Int32) : Nat := if xs_isW wy 1 4 = 0 then 2 else wy.toNatClampNeg
theorem xh_in {x : Int32} {N : Nat} (hN : N < 2 ^ 31) (h : ¬ xs_isW x 1 (nI N) = 0) : ∃ j, 1 ≤ j ∧ j ≤ N ∧ x = nI j := by
  unfold xs_isW at h
  by_cases h1 : x < 1
  · rw [if_pos h1] at h; exact absurd rfl h
  · rw [if_neg h1] at h
    by_cases h2 : nI N < x
    · rw [if_pos h2] at h; exact absurd rfl h
    · have h0 : ¬ x < 0 := fun e => h1 (Int32.lt_trans e (by decide))
      obtain ⟨j, hj, rfl⟩ := nI_of h0
      rw [show (1 : Int32) = nI 1 from rfl, nI_ltI hj (by omega)] at h1
      rw [nI_ltI hN hj] at h2
      exact ⟨j, by omega, by omega, rfl⟩
theorem xh_n12 {it : Int32} (h : xs_isW it 1 32 = 0) : 12 = nI (xh_n it) := by unfold xh_n; rw [if_pos h]; rfl
theorem xh_nit {it : Int32} (h : ¬ xs_isW it 1 32 = 0) : it = nI (xh_n it) := by
  obtain ⟨j, j1, j2, rfl⟩ := xh_in (N := 32) (by omega) h
  unfold xh_n; rw [if_neg h, nI_clamp (by omega)]
theorem xh_w2 {wy : Int32} (h : xs_isW wy 1 4 = 0) : 2 = nI (xh_w wy) := by unfold xh_w; rw [if_pos h]; rfl
theorem xh_wit {wy : Int32} (h : ¬ xs_isW wy 1 4 = 0) : wy = nI (xh_w wy) := by
  obtain ⟨j, j1, j2, rfl⟩ := xh_in (N := 4) (by omega) h
  unfold xh_w; rw [if_neg h, nI_clamp (by omega)]
theorem xh_nb (it : Int32) : 1 ≤ xh_n it ∧ xh_n it ≤ 32 := by
  unfold xh_n
  by_cases h : xs_isW it 1 32 = 0
  · rw [if_pos h]; omega
  · obtain ⟨j, j1, j2, rfl⟩ := xh_in (N := 32) (by omega) h
    rw [if_neg h, nI_clamp (by omega)]; omega
theorem xh_wb (wy : Int32) : 1 ≤ xh_w wy ∧ xh_w wy ≤ 4 := by
  unfold xh_w
  by_cases h : xs_isW wy 1 4 = 0
  · rw [if_pos h]; omega
  · obtain ⟨j, j1, j2, rfl⟩ := xh_in (N := 4) (by omega) h
    rw [if_neg h, nI_clamp (by omega)]; omega
set_option maxRecDepth 100000 in
set_option maxHeartbeats 400000 in
theorem xh_TA (l : Launch) (D : va_G) (cI cZ cR : ClassId) (ws : va_W) (a : Nat) : xg_M l xny_TA_init xnc_TA_init 1 1 12 0 0 D [(cI, .int), (cZ, .boolean), (cR, .object xnR_RD)] [.ref a] ws (fun w1 => w1 = ws) := by
  refine xg_start (own := xnR_TA) [some (.ref a)] rfl rfl (by decide) (Nat.le_of_ble_eq_true rfl) rfl (xf_cat rfl) ?_
  intro X hX hI hE
  refine xf_aload_n (hX.on rfl rfl) 1 rfl 0 xnd_TA_init_0 rfl rfl ?_
  refine xg_objInit hX 4 rfl xkO_TA xkO_i xkO_c rfl rfl xnd_TA_init_1 ?_
  exact xg_ret hX hE rfl rfl xnd_TA_init_4 rfl
set_option maxRecDepth 100000 in
set_option maxHeartbeats 400000 in
theorem xh_RD (l : Launch) (D : va_G) (cI cZ cR : ClassId) (ws : va_W) (k a st wr ta : Nat) (he : ws[k]? = some (a, .inr (5, [.null, .null, .null, .int 0, .int 0, .int 0, .int 0, .int 0, .int 0, .int 0, .int 0]))) : xg_M l xny_RD_init xnc_RD_init 4 1 12 0 0 D [(cI, .int), (cZ, .boolean), (cR, .object xnR_RD)] [.ref a, .ref st, .ref wr, .ref ta] ws (fun w1 => w1 = ws.set k (a, .inr (5, [.ref st, .ref wr, .ref ta, .int 0, .int 0, .int 0, .int 0, .int 0, .int 0, .int 0, .int 0]))) := by
  refine xg_start (own := xnR_RD) [some (.ref a), some (.ref st), some (.ref wr), some (.ref ta)] rfl rfl (by decide) (Nat.le_of_ble_eq_true rfl) rfl (xf_cat rfl) ?_
  intro X hX hI hE
  have hk : k < ws.length := (List.getElem?_eq_some_iff.mp he).1
  refine xf_aload_n (hX.on rfl rfl) 1 rfl 0 xnd_RD_init_0 rfl rfl ?_
  refine xg_objInit hX 4 rfl xkO_RD xkO_i xkO_c rfl rfl xnd_RD_init_1 ?_
  refine xf_aload_n (hX.on rfl rfl) 5 rfl 0 xnd_RD_init_4 rfl rfl ?_
  refine xf_aload_n (hX.on rfl rfl) 6 rfl 1 xnd_RD_init_5 rfl rfl ?_
  refine xg_putF hX hI 9 rfl xin_RD xnK_RD xnO_RD xnM_RD k he rfl 0 (by decide) xk_RD_9 rfl rfl (xnO_RD 0 (by decide)) rfl rfl (Nat.le_of_ble_eq_true rfl) xnd_RD_init_6 ?_
  dsimp only [List.set]
  refine xf_aload_n (hX.on rfl rfl) 10 rfl 0 xnd_RD_init_9 rfl rfl ?_
  refine xf_aload_n (hX.on rfl rfl) 11 rfl 2 xnd_RD_init_10 rfl rfl ?_
  refine xg_putF hX hI 14 rfl xin_RD xnK_RD xnO_RD xnM_RD k (by rw [List.getElem?_set_self hk]) rfl 1 (by decide) xk_RD_15 rfl rfl (xnO_RD 1 (by decide)) rfl rfl (Nat.le_of_ble_eq_true rfl) xnd_RD_init_11 ?_
  rw [List.set_set]
  dsimp only [List.set]
  refine xf_aload_n (hX.on rfl rfl) 15 rfl 0 xnd_RD_init_14 rfl rfl ?_
  refine xf_aload_n (hX.on rfl rfl) 16 rfl 3 xnd_RD_init_15 rfl rfl ?_
  refine xg_putF hX hI 19 rfl xin_RD xnK_RD xnO_RD xnM_RD k (by rw [List.getElem?_set_self hk]) rfl 2 (by decide) xk_RD_19 rfl rfl (xnO_RD 2 (by decide)) rfl rfl (Nat.le_of_ble_eq_true rfl) xnd_RD_init_16 ?_
  rw [List.set_set]
  dsimp only [List.set]
  exact xg_ret hX hE rfl rfl xnd_RD_init_19 rfl
