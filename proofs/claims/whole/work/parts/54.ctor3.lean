/-! What constructors call, over any world. -/
set_option maxRecDepth 100000 in
set_option maxHeartbeats 400000 in
theorem xh_isW (l : Launch) (D : va_G) (tys : List (ClassId × FieldType)) (wf : xf_S → va_W) (σ : xf_S) (x a b : Int32) : xf_F l xny_SC_isWithin xnc_SC_isWithin 3 (some .boolean) 0 0 wf D tys [.int x, .int a, .int b] σ (some (.int (xs_isW x a b))) σ := by
  refine xf_start (own := xnR_SC) [some (.int x), some (.int a), some (.int b)] rfl (by decide) (Nat.le_of_ble_eq_true rfl) rfl (xf_cat rfl) ?_
  intro X hX hE
  refine xf_iload_n hX 1 rfl 0 xnd_SC_isWithin_0 rfl rfl ?_
  refine xf_iload_n hX 2 rfl 1 xnd_SC_isWithin_1 rfl rfl ?_
  refine xf_icmp_lt hX 5 rfl 14 xnd_SC_isWithin_2 (by decide) (fun h2 => ?_) (fun h2 => ?_)
  · refine xf_iconst hX 15 rfl (0) xnd_SC_isWithin_14 (by decide) ?_
    refine xf_zret hX hE xnd_SC_isWithin_15 rfl ?_
    refine ⟨?_, rfl⟩
    simp only [xs_isW, h2, if_true, if_false]
  · refine xf_iload_n hX 6 rfl 0 xnd_SC_isWithin_5 rfl rfl ?_
    refine xf_iload_n hX 7 rfl 2 xnd_SC_isWithin_6 rfl rfl ?_
    refine xf_icmp_gt hX 10 rfl 14 xnd_SC_isWithin_7 (by decide) (fun h7 => ?_) (fun h7 => ?_)
    · refine xf_iconst hX 15 rfl (0) xnd_SC_isWithin_14 (by decide) ?_
      refine xf_zret hX hE xnd_SC_isWithin_15 rfl ?_
      refine ⟨?_, rfl⟩
      simp only [xs_isW, h2, h7, if_true, if_false]
    · refine xf_iconst hX 11 rfl (1) xnd_SC_isWithin_10 (by decide) ?_
      refine xf_goto hX 15 xnd_SC_isWithin_11 (by decide) ?_
      refine xf_zret hX hE xnd_SC_isWithin_15 rfl ?_
      refine ⟨?_, rfl⟩
      simp only [xs_isW, h2, h7, if_true, if_false]

set_option maxRecDepth 100000 in
set_option maxHeartbeats 400000 in
theorem xh_fill (l : Launch) (D : va_G) (cI cZ cR : ClassId) (ws : va_W) (k a N : Nat) (hN : N < 2 ^ 31) (hk : k < ws.length) (σ τ : xf_T) (v : Int32) : xf_F l xny_AR_fill xnc_AR_fill 4 none 0 0 (fun u => ws.set k (a, .inl (cI, N, .inl (u.1.2 5)))) D [(cI, .int), (cZ, .boolean), (cR, .object xnR_RD)] [.ref a, .int v] (σ, τ) none (xs_sA σ 5 (xs_fill N (σ.2 5) v N), τ) := by
  refine xf_start (own := xnR_AR) [some (.ref a), some (.int v), none, none] rfl (by decide) (Nat.le_of_ble_eq_true rfl) rfl (xf_cat rfl) ?_
  intro X hX hE
  have loop : ∀ r j, r + j = N → xf_V X 5 [some (.ref a), some (.int v), some (.int (nI j)), some (.int (nI N))] [] (xs_sA σ 5 (xs_fill N (σ.2 5) v j), τ) := by
    intro r
    induction r with
    | zero =>
      intro j hj
      refine xf_iload_n hX 6 rfl 2 xnd_AR_fill_5 rfl rfl ?_
      refine xf_iload_n hX 7 rfl 3 xnd_AR_fill_6 rfl rfl ?_
      refine xf_icmp_ge hX 10 rfl 20 xnd_AR_fill_7 (by decide) (fun _ => ?_) (fun h7 => absurd (nI_le (by omega) (by omega)) h7)
      refine xf_vret hX hE xnd_AR_fill_20 ?_
      have e9 : j = N := by omega
      subst e9
      exact ⟨rfl, rfl⟩
    | succ r ih =>
      intro j hj
      refine xf_iload_n hX 6 rfl 2 xnd_AR_fill_5 rfl rfl ?_
      refine xf_iload_n hX 7 rfl 3 xnd_AR_fill_6 rfl rfl ?_
      refine xf_icmp_ge hX 10 rfl 20 xnd_AR_fill_7 (by decide) (fun h7 => absurd h7 (nI_ge (by omega) (by omega))) (fun _ => ?_)
      refine xf_aload_n hX 11 rfl 0 xnd_AR_fill_10 rfl rfl ?_
      refine xf_iload_n hX 12 rfl 2 xnd_AR_fill_11 rfl rfl ?_
      refine xf_iload_n hX 13 rfl 1 xnd_AR_fill_12 rfl rfl ?_
      refine xf_iast hX 14 rfl k 0 (List.getElem?_set_self hk) rfl (show vp_in _ N from vp_in_nI (by omega) hN) xnd_AR_fill_13 (σ' := (xf_A (xs_sA σ 5 (xs_fill N (σ.2 5) v j)) 5 j v, τ)) ?_ ?_
      · rw [List.set_set, nI_clamp (by omega)]; rfl
      rw [xs_A_sA, xs_fill_s]
      refine xf_iinc hX 17 rfl (nI (j + 1)) xnd_AR_fill_14 rfl (by rw [nI_succ]; rfl) (by decide) ?_
      dsimp only [List.set]
      refine xf_goto hX 5 xnd_AR_fill_17 (by decide) ?_
      exact ih (j + 1) (by omega)
  refine xf_iconst hX 1 rfl (0) xnd_AR_fill_0 (by decide) ?_
  refine xf_istore_n hX 2 rfl 2 xnd_AR_fill_1 rfl (by decide) ?_
  dsimp only [List.set]
  refine xf_aload_n hX 3 rfl 0 xnd_AR_fill_2 rfl rfl ?_
  refine xf_alen hX 4 rfl k 0 (List.getElem?_set_self hk) rfl (v := nI N) rfl xnd_AR_fill_3 ?_
  refine xf_istore_n hX 5 rfl 3 xnd_AR_fill_4 rfl (by decide) ?_
  dsimp only [List.set]
  have h0 := loop N 0 (by omega)
  rw [show xs_sA σ 5 (xs_fill N (σ.2 5) v 0) = σ from by rw [show xs_fill N (σ.2 5) v 0 = σ.2 5 from funext (fun p => by unfold xs_fill; rw [if_neg (Nat.not_lt_zero p)]), xs_sA_id]] at h0
  exact h0
theorem xg_fill {X : xf_C} {l : Launch} {cc : ByteArray} {nL fr lo mc ms : Nat} {ws : va_W} {D : va_G} {cI cZ cR : ClassId} {pc nc ns : Nat} {L : List (Option Value)} {st : List Value} (hX : xg_ok X l xnR_ST cc nL fr lo mc ms D [(cI, .int), (cZ, .boolean), (cR, .object xnR_RD)]) (np : Nat) (hp : pc + 3 = np) (k : Nat) {a N : Nat} (he : ws[k]? = some (a, .inl (cI, N, .inl (fun _ => 0)))) (hN : N < 2 ^ 31) (hw : Nat.ble ((st.map fun v => v.category).sum) 8 = true) (hR : (Nat.ble (0 + 1) fr && Nat.ble (8 + (4 + 11) + 0) lo) = true) (hcc : Nat.ble nc mc = true) (hss : Nat.ble ns ms = true) {idx : Nat} (hidx : idx = 26) (hd : decode cc pc = .ok (.invokestatic idx, 3))
    {v : Int32} (kk : xf_V (xf_re X (ws.set k (a, .inl (cI, N, .inl (fun p => if p < N then v else 0)))) nc ns) np L st xg_0) : xf_V (xf_re X ws nc ns) pc L (.int v :: .ref a :: st) xg_0 := by
  subst hidx
  obtain ⟨hk, e⟩ := List.getElem?_eq_some_iff.mp he
  have hM := xh_fill l D cI cZ cR ws k a N hN hk xg_0.1 xg_0.2 v
  have e0 : ws.set k (a, .inl (cI, N, .inl (xg_0.1.2 5))) = ws := by
    show ws.set k (a, .inl (cI, N, .inl (fun _ => 0))) = ws
    rw [← e]; exact List.set_getElem_self hk
  obtain ⟨p, l, e, R, s, m, args, below, meth, c, A, Q, D', tys', wf', nL0, cells, slots⟩ := X
  obtain ⟨⟨h1, h2, h4, h5⟩, hx, hb, hml, hown, hts, hK, hN2, hA, hR0, hC, hAO⟩ := hX
  have hok : xf_ok (p, l, e, R, s, m, args, below, meth, c, A, Q, D', tys', (fun u => ws.set k (a, .inl (cI, N, .inl (u.1.2 5)))), nL0, nc, ns) _ xnR_ST cc _ fr lo (fun u => ws.set k (a, .inl (cI, N, .inl (u.1.2 5)))) D [(cI, .int), (cZ, .boolean), (cR, .object xnR_RD)] := ⟨⟨h1, h2, rfl, h4, h5⟩, hx, hb, hml, hown, hts, hK, hN2, hA, hR0, by rw [hC.1]; exact Nat.le_of_ble_eq_true hcc, by rw [hC.2]; exact Nat.le_of_ble_eq_true hss⟩
  have V := xf_S2v (L := L) (rest := st) hok np hp hM xq_AR_fill xk_ST_26 hw hR hd (fun H locs ls hP hD hS hl => kk H locs ls hP hD hS hl)
  intro H locs ls hP hD hS hl
  exact V H locs ls (by show va_P D' vwCl (ws.set k (a, .inl (cI, N, .inl (xg_0.1.2 5)))) H; rw [e0]; exact hP) (by show va_D A (ws.set k (a, .inl (cI, N, .inl (xg_0.1.2 5)))); rw [e0]; exact hD) hS hl
