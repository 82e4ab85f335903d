/-! The law's run: the two makings, then the loop. -/
def xf_rw (X : xf_C) (wf : xf_S → va_W) (nc ns : Nat) : xf_C := match X with
  | (p, l, e, R, s, m, args, below, meth, c, A, Q, D, tys, _, nL, _, _) => (p, l, e, R, s, m, args, below, meth, c, A, Q, D, tys, wf, nL, nc, ns)
theorem xl_arrV {c : ClassId} {f g : Nat → Value} {n : Nat} (h : ∀ j, j < n → f j = g j) : arrV c n f = arrV c n g := by
  have e : (fun j : Fin n => f j.val) = fun j : Fin n => g j.val := funext (fun j => h j.val j.isLt)
  unfold arrV
  rw [e]
section XLR
variable {X : xf_C} {l : Launch} {own : String} {cc : ByteArray} {nL fr lo mc ms : Nat} {ws : va_W} {wf : xf_S → va_W} {D : va_G} {tys : List (ClassId × FieldType)} {pc nc ns : Nat} {L : List (Option Value)} {st : List Value} {σ : xf_S}
theorem xg_ok.rw (h : xg_ok X l own cc nL fr lo mc ms D tys) (hc : Nat.ble nc mc = true) (hs : Nat.ble ns ms = true) : xf_ok (xf_rw X wf nc ns) l own cc nL fr lo wf D tys := by
  obtain ⟨p, l, e, R, s, m, args, below, meth, c, A, Q, D', tys', wf', nL', cells, slots⟩ := X
  obtain ⟨⟨h1, h2, h4, h5⟩, hx, hb, hml, hown, hts, hK, hN, hA, hR, hC, -⟩ := h
  exact ⟨⟨h1, h2, rfl, h4, h5⟩, hx, hb, hml, hown, hts, hK, hN, hA, hR, by rw [hC.1]; exact Nat.le_of_ble_eq_true hc, by rw [hC.2]; exact Nat.le_of_ble_eq_true hs⟩
theorem xl_scr.rw {b N : Nat} {xs : Nat → Int32} (h : xl_scr X b N xs) : xl_scr (xf_rw X wf nc ns) b N xs := by
  obtain ⟨p, l, e, R, s, m, args, below, meth, c, A, Q, D, tys, wf, nL', cells, slots⟩ := X
  exact h
theorem xl_conv (h : wf σ = ws) (k : xf_V (xf_rw X wf nc ns) pc L st σ) : xf_V (xf_re X ws nc ns) pc L st xg_0 := by
  subst h
  obtain ⟨p, l, e, R, s, m, args, below, meth, c, A, Q, D, tys, wf, nL', cells, slots⟩ := X
  exact k
end XLR
set_option maxRecDepth 100000 in
set_option maxHeartbeats 1000000 in
theorem xl_run {X : xf_C} {l : Launch} {D : va_G} {cI cZ cR : ClassId} {b N : Nat} {xs : Nat → Int32} (hN : N ≤ 3074) (hX : xg_ok X l xnR_LW xnc_LW_law 4 11 400 600000 7302250 D [(cI, .int), (cZ, .boolean), (cR, .object xnR_RD)]) (hB : xl_scr X b N xs) (hend : ∀ (wf : xf_S → va_W) (σ : xf_S) (L : List (Option Value)) (nc ns : Nat), Nat.ble nc 600000 = true → Nat.ble ns 7302250 = true → xf_V (xf_rw X wf nc ns) 557 L [.int 1] σ) : xf_V (xf_re X [] 0 0) 0 [some (.ref b), none, none, none] [] xg_0 := by
  have h31 : N < 2 ^ 31 := by omega
  refine xg_new hX 3 rfl (ci := 0) xin_SC xnK_SC xnO_SC xkC_LW_7 xkI_SC xkZ_SC rfl xz_SC rfl rfl xnd_LW_law_0 (fun x => ?_)
  dsimp only [List.cons_append, List.nil_append]
  refine xf_dup (hX.on rfl rfl) 4 rfl xnd_LW_law_3 rfl ?_
  refine xf_aload_n (hX.on rfl rfl) 5 rfl 0 xnd_LW_law_4 rfl rfl ?_
  refine xf_iconst (hX.on rfl rfl) 6 rfl (0) xnd_LW_law_5 (by decide) ?_
  refine xl_callC hX hB h31 9 rfl 0 rfl (by omega) [.ref x, .ref x] xk_LW_9 xq_LW_cell rfl rfl rfl rfl xnd_LW_law_6 ?_
  refine xf_aload_n (hX.on rfl rfl) 10 rfl 0 xnd_LW_law_9 rfl rfl ?_
  refine xf_iconst (hX.on rfl rfl) 11 rfl (1) xnd_LW_law_10 (by decide) ?_
  refine xl_callC hX hB h31 14 rfl 1 rfl (by omega) [.int (xl_c N xs 0), .ref x, .ref x] xk_LW_9 xq_LW_cell rfl rfl rfl rfl xnd_LW_law_11 ?_
  refine xg_callI hX 17 rfl [.int (xl_c N xs 0), .int (xl_c N xs 1)] [.ref x] (xh_SC l D cI cZ cR x (xl_c N xs 0) (xl_c N xs 1)) xgi_SC xk_LW_15 rfl rfl rfl rfl rfl rfl xnd_LW_law_14 ?_
  intro w1 hw1
  obtain ⟨ta, st, pl, ke, va, to, ex, bi, us, ve, wr, pa, so, qu, be, de, ra, r0, r1, r2, rfl⟩ := hw1
  refine xf_astore_n (hX.on rfl rfl) 18 rfl 1 xnd_LW_law_17 rfl (by decide) ?_
  dsimp only [List.set]
  refine xg_new hX 21 rfl (ci := 6) xin_MO xnK_MO xnO_MO xkC_LW_18 xkI_MO xkZ_MO rfl xz_MO rfl rfl xnd_LW_law_18 (fun mo => ?_)
  dsimp only [List.cons_append, List.nil_append]
  refine xf_dup (hX.on rfl rfl) 22 rfl xnd_LW_law_21 rfl ?_
  refine xf_aload_n (hX.on rfl rfl) 23 rfl 0 xnd_LW_law_22 rfl rfl ?_
  refine xf_iconst (hX.on rfl rfl) 24 rfl (0) xnd_LW_law_23 (by decide) ?_
  refine xl_callC hX hB h31 27 rfl 0 rfl (by omega) [.ref mo, .ref mo] xk_LW_9 xq_LW_cell rfl rfl rfl rfl xnd_LW_law_24 ?_
  refine xf_aload_n (hX.on rfl rfl) 28 rfl 0 xnd_LW_law_27 rfl rfl ?_
  refine xf_iconst (hX.on rfl rfl) 29 rfl (1) xnd_LW_law_28 (by decide) ?_
  refine xl_callC hX hB h31 32 rfl 1 rfl (by omega) [.int (xl_c N xs 0), .ref mo, .ref mo] xk_LW_9 xq_LW_cell rfl rfl rfl rfl xnd_LW_law_29 ?_
  refine xg_perm [21, 0, 1, 2, 3, 4, 5, 6, 7, 8, 9, 10, 11, 12, 13, 14, 15, 16, 17, 18, 19, 20] (ws' := (mo, .inr (6, [.int 0, .int 0, .int 0, .int 0, .int 0, .null, .null, .null, .null, .null, .null, .null, .null, .int 0, .int 0, .int 0, .int 0, .int 0, .int 0, .int 0, .int 0, .int 0, .int 0, .null, .null, .null, .null, .null, .null, .null, .null, .null, .int 0, .int 0, .int 0, .int 0, .int 0, .int 0])) :: [(x, .inr (0, [.ref ta, .ref st, .ref wr, .ref ra])), (ta, .inr (1, [.int 0, .int 0, .int 0, .int 0, .int 0, .int 0])), (st, .inr (2, [.ref ta, .int (nI (xh_n (xl_c N xs 0))), .int (nI (xh_w (xl_c N xs 1))), .ref pl, .ref ke, .ref va, .ref to, .ref ex, .ref bi, .ref us, .ref ve, .int 0, .int 0, .int 0])), (pl, .inl (cI, 8 * xh_w (xl_c N xs 1), .inl (fun p => if p < 8 * xh_w (xl_c N xs 1) then -1 else 0))), (ke, .inl (cI, xh_n (xl_c N xs 0), .inl (fun _ => 0))), (va, .inl (cI, xh_n (xl_c N xs 0), .inl (fun _ => 0))), (to, .inl (cI, xh_n (xl_c N xs 0), .inl (fun _ => 0))), (ex, .inl (cI, xh_n (xl_c N xs 0), .inl (fun _ => 0))), (bi, .inl (cZ, xh_n (xl_c N xs 0), .inl (fun _ => 0))), (us, .inl (cZ, xh_n (xl_c N xs 0), .inl (fun _ => 0))), (ve, .inl (cI, 4, .inl (fun _ => 0))), (wr, .inr (3, [.ref st, .ref ta, .ref pa, .int (-1), .int 0, .int 0, .int 0, .int 0, .int 0, .int 0, .int 0, .int 0, .int 0])), (pa, .inr (4, [.ref st, .ref so, .int 0, .ref qu, .ref be, .ref de, .int 0])), (so, .inl (cI, 5, .inl (fun _ => 0))), (qu, .inl (cI, 8 * xh_w (xl_c N xs 1), .inl (fun _ => 0))), (be, .inl (cI, 8 * xh_w (xl_c N xs 1), .inl (fun _ => 0))), (de, .inl (cI, 8 * xh_w (xl_c N xs 1), .inl (fun _ => 0))), (ra, .inl (cR, 3, .inr (.inr (.inr (.inr (va_up (va_up (va_up (fun _ => none) ((0 : Int32).toNatClampNeg) (some r0)) ((1 : Int32).toNatClampNeg) (some r1)) ((2 : Int32).toNatClampNeg) (some r2))))))), (r0, .inr (5, [.ref st, .ref wr, .ref ta, .int 0, .int 0, .int 0, .int 0, .int 0, .int 0, .int 0, .int 0])), (r1, .inr (5, [.ref st, .ref wr, .ref ta, .int 0, .int 0, .int 0, .int 0, .int 0, .int 0, .int 0, .int 0])), (r2, .inr (5, [.ref st, .ref wr, .ref ta, .int 0, .int 0, .int 0, .int 0, .int 0, .int 0, .int 0, .int 0]))]) rfl rfl rfl ?_
  refine xg_callI hX 35 rfl [.int (xl_c N xs 0), .int (xl_c N xs 1)] [.ref mo] (xh_MO l D cI cZ cR [(x, .inr (0, [.ref ta, .ref st, .ref wr, .ref ra])), (ta, .inr (1, [.int 0, .int 0, .int 0, .int 0, .int 0, .int 0])), (st, .inr (2, [.ref ta, .int (nI (xh_n (xl_c N xs 0))), .int (nI (xh_w (xl_c N xs 1))), .ref pl, .ref ke, .ref va, .ref to, .ref ex, .ref bi, .ref us, .ref ve, .int 0, .int 0, .int 0])), (pl, .inl (cI, 8 * xh_w (xl_c N xs 1), .inl (fun p => if p < 8 * xh_w (xl_c N xs 1) then -1 else 0))), (ke, .inl (cI, xh_n (xl_c N xs 0), .inl (fun _ => 0))), (va, .inl (cI, xh_n (xl_c N xs 0), .inl (fun _ => 0))), (to, .inl (cI, xh_n (xl_c N xs 0), .inl (fun _ => 0))), (ex, .inl (cI, xh_n (xl_c N xs 0), .inl (fun _ => 0))), (bi, .inl (cZ, xh_n (xl_c N xs 0), .inl (fun _ => 0))), (us, .inl (cZ, xh_n (xl_c N xs 0), .inl (fun _ => 0))), (ve, .inl (cI, 4, .inl (fun _ => 0))), (wr, .inr (3, [.ref st, .ref ta, .ref pa, .int (-1), .int 0, .int 0, .int 0, .int 0, .int 0, .int 0, .int 0, .int 0, .int 0])), (pa, .inr (4, [.ref st, .ref so, .int 0, .ref qu, .ref be, .ref de, .int 0])), (so, .inl (cI, 5, .inl (fun _ => 0))), (qu, .inl (cI, 8 * xh_w (xl_c N xs 1), .inl (fun _ => 0))), (be, .inl (cI, 8 * xh_w (xl_c N xs 1), .inl (fun _ => 0))), (de, .inl (cI, 8 * xh_w (xl_c N xs 1), .inl (fun _ => 0))), (ra, .inl (cR, 3, .inr (.inr (.inr (.inr (va_up (va_up (va_up (fun _ => none) ((0 : Int32).toNatClampNeg) (some r0)) ((1 : Int32).toNatClampNeg) (some r1)) ((2 : Int32).toNatClampNeg) (some r2))))))), (r0, .inr (5, [.ref st, .ref wr, .ref ta, .int 0, .int 0, .int 0, .int 0, .int 0, .int 0, .int 0, .int 0])), (r1, .inr (5, [.ref st, .ref wr, .ref ta, .int 0, .int 0, .int 0, .int 0, .int 0, .int 0, .int 0, .int 0])), (r2, .inr (5, [.ref st, .ref wr, .ref ta, .int 0, .int 0, .int 0, .int 0, .int 0, .int 0, .int 0, .int 0]))] mo (xl_c N xs 0) (xl_c N xs 1)) xgi_MO xk_LW_20 rfl rfl rfl rfl rfl rfl xnd_LW_law_32 ?_
  intro w1 hw1
  obtain ⟨c1, c2, c3, c4, c5, c6, c7, c8, c9, c10, c11, c12, c13, c14, c15, c16, c17, rfl⟩ := hw1
  refine xf_astore_n (hX.on rfl rfl) 36 rfl 2 xnd_LW_law_35 rfl (by decide) ?_
  dsimp only [List.set]
  refine xf_iconst (hX.on rfl rfl) 37 rfl (2) xnd_LW_law_36 (by decide) ?_
  refine xf_istore_n (hX.on rfl rfl) 38 rfl 3 xnd_LW_law_37 rfl (by decide) ?_
  dsimp only [List.set]
  refine xg_perm [1, 2, 3, 12, 18, 4, 5, 6, 7, 8, 9, 10, 11, 13, 14, 15, 16, 17, 19, 20, 21, 0, 22, 23, 24, 25, 26, 27, 28, 29, 30, 31, 32, 33, 34, 35, 36, 37, 38] (ws' := [(x, .inr (0, [.ref ta, .ref st, .ref wr, .ref ra])), (ta, .inr (1, [.int 0, .int 0, .int 0, .int 0, .int 0, .int 0])), (st, .inr (2, [.ref ta, .int (nI (xh_n (xl_c N xs 0))), .int (nI (xh_w (xl_c N xs 1))), .ref pl, .ref ke, .ref va, .ref to, .ref ex, .ref bi, .ref us, .ref ve, .int 0, .int 0, .int 0])), (wr, .inr (3, [.ref st, .ref ta, .ref pa, .int (-1), .int 0, .int 0, .int 0, .int 0, .int 0, .int 0, .int 0, .int 0, .int 0])), (ra, .inl (cR, 3, .inr (.inr (.inr (.inr (va_up (va_up (va_up (fun _ => none) ((0 : Int32).toNatClampNeg) (some r0)) ((1 : Int32).toNatClampNeg) (some r1)) ((2 : Int32).toNatClampNeg) (some r2))))))), (pl, .inl (cI, 8 * xh_w (xl_c N xs 1), .inl (fun p => if p < 8 * xh_w (xl_c N xs 1) then -1 else 0))), (ke, .inl (cI, xh_n (xl_c N xs 0), .inl (fun _ => 0))), (va, .inl (cI, xh_n (xl_c N xs 0), .inl (fun _ => 0))), (to, .inl (cI, xh_n (xl_c N xs 0), .inl (fun _ => 0))), (ex, .inl (cI, xh_n (xl_c N xs 0), .inl (fun _ => 0))), (bi, .inl (cZ, xh_n (xl_c N xs 0), .inl (fun _ => 0))), (us, .inl (cZ, xh_n (xl_c N xs 0), .inl (fun _ => 0))), (ve, .inl (cI, 4, .inl (fun _ => 0))), (pa, .inr (4, [.ref st, .ref so, .int 0, .ref qu, .ref be, .ref de, .int 0])), (so, .inl (cI, 5, .inl (fun _ => 0))), (qu, .inl (cI, 8 * xh_w (xl_c N xs 1), .inl (fun _ => 0))), (be, .inl (cI, 8 * xh_w (xl_c N xs 1), .inl (fun _ => 0))), (de, .inl (cI, 8 * xh_w (xl_c N xs 1), .inl (fun _ => 0))), (r0, .inr (5, [.ref st, .ref wr, .ref ta, .int 0, .int 0, .int 0, .int 0, .int 0, .int 0, .int 0, .int 0])), (r1, .inr (5, [.ref st, .ref wr, .ref ta, .int 0, .int 0, .int 0, .int 0, .int 0, .int 0, .int 0, .int 0])), (r2, .inr (5, [.ref st, .ref wr, .ref ta, .int 0, .int 0, .int 0, .int 0, .int 0, .int 0, .int 0, .int 0])), (mo, .inr (6, [.int (nI (xh_n (xl_c N xs 0))), .int (nI (xh_w (xl_c N xs 1))), .int 0, .int 0, .int 0, .ref c1, .ref c2, .ref c3, .ref c4, .ref c5, .ref c6, .ref c7, .ref c8, .int 0, .int (-1), .int 0, .int 0, .int 0, .int 0, .int 0, .int 0, .int 0, .int 0, .ref c9, .ref c10, .ref c11, .ref c12, .ref c13, .ref c14, .ref c15, .ref c16, .ref c17, .int 0, .int 0, .int 0, .int 0, .int 0, .int 0])), (c1, .inl (cI, 32, .inl (fun _ => 0))), (c2, .inl (cZ, 32, .inl (fun _ => 0))), (c3, .inl (cI, 32, .inl (fun _ => 0))), (c4, .inl (cI, 32, .inl (fun _ => 0))), (c5, .inl (cI, 32, .inl (fun _ => 0))), (c6, .inl (cI, 32, .inl (fun _ => 0))), (c7, .inl (cZ, 32, .inl (fun _ => 0))), (c8, .inl (cI, 4, .inl (fun _ => 0))), (c9, .inl (cI, 5, .inl (fun _ => 0))), (c10, .inl (cI, 3, .inl (fun _ => 0))), (c11, .inl (cI, 3, .inl (fun _ => 0))), (c12, .inl (cI, 3, .inl (fun _ => 0))), (c13, .inl (cI, 3, .inl (fun _ => 0))), (c14, .inl (cI, 3, .inl (fun _ => 0))), (c15, .inl (cI, 3, .inl (fun _ => 0))), (c16, .inl (cI, 3, .inl (fun _ => 0))), (c17, .inl (cI, 3, .inl (fun _ => 0)))]) rfl rfl rfl ?_
  obtain ⟨P, hP⟩ : ∃ P : xw_T, P = (l, D, (fun k => if k < 100 then [x, ta, st, wr, ra, pl, ke, va, to, ex, bi, us, ve, pa, so, qu, be, de, r0, r1, r2].getD k 0 else [mo, c1, c2, c3, c4, c5, c6, c7, c8, c9, c10, c11, c12, c13, c14, c15, c16, c17].getD (k - 100) 0), cI, cZ, cR, xh_n (xl_c N xs 0), xh_w (xl_c N xs 1)) := ⟨_, rfl⟩
  refine xg_cell 4 (y := (3, .inr (.inr (.inr (.inr (fun k => some (xw_a P (18 + k)))))))) rfl (xl_arrV (fun j hj => ?_)) ?_
  · subst hP
    rcases (show j = 0 ∨ j = 1 ∨ j = 2 by omega) with rfl | rfl | rfl <;> rfl
  refine xl_conv (wf := xw_W P) (σ := (xl_s (xh_w (xl_c N xs 1)), xl_t)) (by subst hP; rfl) ?_
  have hXP : xf_ok (xf_rw X (xw_W P) _ _) (xw_l P) xnR_LW xnc_LW_law 4 11 400 (xw_W P) (xw_D P) (xw_ty P) := by subst hP; exact hX.rw rfl rfl
  have hRP : xr_R (xw_n P) (xw_w P) (xl_s (xh_w (xl_c N xs 1))) xl_t := by subst hP; exact xl_R (xh_nb _) (xh_wb _)
  have ex : xw_a P 0 = x ∧ xw_a P 100 = mo := by subst hP; exact ⟨rfl, rfl⟩
  rw [← ex.1, ← ex.2]
  exact xl_loop P hN hXP hB.rw (fun i σ τ => xf_iconst hXP 557 rfl (1) xnd_LW_law_556 (by decide) (hend _ _ _ _ _ rfl rfl)) N 2 _ _ (by omega) (by omega) hRP
