/-! The law: what it needs beside the world: the script, 'cell', the start. -/
def xl_scr (X : xf_C) (b N : Nat) (xs : Nat → Int32) : Prop := match X with
  | (_, _, _, _, s, _, _, _, _, _, A, _, _, _, _, _, _, _) => va_X b N xs s s.heap ∧ b < s.heap.size ∧ ¬ A b
section XL
variable {X : xf_C} {l : Launch} {own : String} {cc : ByteArray} {nL fr lo mc ms : Nat} {ws : va_W} {wf : xf_S → va_W} {D : va_G} {tys : List (ClassId × FieldType)} {pc nc ns : Nat} {L : List (Option Value)} {st : List Value} {σ : xf_S} {b N : Nat} {xs : Nat → Int32}
theorem xl_scr.re (h : xl_scr X b N xs) : xl_scr (xf_re X ws nc ns) b N xs := by
  obtain ⟨p, l, e, R, s, m, args, below, meth, c, A, Q, D, tys, wf, nL', cells, slots⟩ := X
  exact h
theorem xf_sld (hX : xf_ok X l own cc nL fr lo wf D tys) (hB : xl_scr X b N xs) (np : Nat) (hp : pc + 1 = np) {i : Int32} (q : Nat) (hi : i = nI q) (hq : q < N) (hN : N < 2 ^ 31) (hd : decode cc pc = .ok (.iaload, 1)) (kk : xf_V X np L (.int (xs q) :: st) σ) : xf_V X pc L (.int i :: .ref b :: st) σ := by
  subst hp hi
  obtain ⟨p, l, e, R, s, m, args, below, meth, c, A, Q, D', tys', wf', nL', cells, slots⟩ := X
  obtain ⟨⟨h1, h2, h3, h4, h5⟩, hx, hb, hml, hown, hts, hK, hNW, hA, hR, -⟩ := hX
  obtain ⟨b1, b2, b3⟩ := hB
  exact fun H locs ls hP hD hS hl => va_sld hx hb b1 b2 b3 hS (vp_in_nI hq hN) hd (by rw [nI_clamp (by omega)]; exact kk H locs ls hP hD hS hl)
theorem xf_slen (hX : xf_ok X l own cc nL fr lo wf D tys) (hB : xl_scr X b N xs) (np : Nat) (hp : pc + 1 = np) (hd : decode cc pc = .ok (.arraylength, 1)) (kk : xf_V X np L (.int (nI N) :: st) σ) : xf_V X pc L (.ref b :: st) σ := by
  subst hp
  obtain ⟨p, l, e, R, s, m, args, below, meth, c, A, Q, D', tys', wf', nL', cells, slots⟩ := X
  obtain ⟨⟨h1, h2, h3, h4, h5⟩, hx, hb, hml, hown, hts, hK, hNW, hA, hR, -⟩ := hX
  obtain ⟨b1, b2, b3⟩ := hB
  exact fun H locs ls hP hD hS hl => va_slen hx hb b1 b2 b3 hS hd (kk H locs ls hP hD hS hl)
theorem xf_astore_n (hX : xf_ok X l own cc nL fr lo wf D tys) (np : Nat) (hp : pc + 1 = np) {k : Fin 4} (i : Nat) {x : Nat} (hd : decode cc pc = .ok (.astore_n k, 1)) (hi : (k : Nat) = i) (hn : i < nL) (kk : xf_V X np (L.set i (some (.ref x))) st σ) : xf_V X pc L (.ref x :: st) σ := by
  subst hp
  obtain ⟨p, l, e, R, s, m, args, below, meth, c, A, Q, D, tys, wf, nL', cells, slots⟩ := X
  obtain ⟨⟨h1, h2, h3, h4, h5⟩, hx, hb, -⟩ := hX
  subst h2
  exact fun H locs ls hP hD hS hl => lv_astore_n hx hb hd hi hl.1 hn rfl (fun ls' h' => kk H locs ls' hP hD hS (hl.set rfl h'))
/-- the readers' array, by another function -/
theorem xg_cell (k : Nat) {a : Nat} {cA : ClassId} {x y : vp_A} (he : ws[k]? = some (a, .inl (cA, x))) (hc : vp_cell cA x = vp_cell cA y) (kk : xf_V (xf_re X (ws.set k (a, .inl (cA, y))) nc ns) pc L st xg_0) : xf_V (xf_re X ws nc ns) pc L st xg_0 := by
  obtain ⟨p, l, e, R, s, m, args, below, meth, c, A, Q, D', tys', wf', nL', cells, slots⟩ := X
  refine fun H locs ls hP hD hS hls => kk H locs ls ?_ (va_D.set hD he) hS hls
  intro j q hj
  by_cases e : k = j
  · subst e
    rw [List.getElem?_set_self (List.getElem?_eq_some_iff.mp he).1] at hj
    cases hj
    have h9 : H[a]? = some (vp_cell cA x) := hP k _ he
    show H[a]? = some (vp_cell cA y)
    rw [h9, hc]
  · rw [List.getElem?_set_ne e] at hj
    exact hP j q hj
def xl_c (N : Nat) (xs : Nat → Int32) (k : Nat) : Int32 := if k < N then xs k else 0
theorem xl_cell (l : Launch) (b N : Nat) (xs : Nat → Int32) (hN : N < 2 ^ 31) (k : Nat) (hk : k < 2 ^ 31) (sz : Nat) : Met l xny_LW_cell (.code xny_LW_cell xnc_LW_cell 2 (some .int) :: xf_GW) { frames := 0, cells := 0, slots := 0, locals := 0 } (va_Pc [.ref b, .int (nI k)] (fun U => U.heap.size = sz ∧ va_X b N xs U U.heap ∧ b < sz)) (fun _ st oc t => oc = .returned (some (.int (xl_c N xs k))) ∧ va_F (fun q => sz ≤ q) st t) 0 0 (fun q => sz ≤ q) := by
  refine Met.ofW (cc := xnc_LW_cell) (maxL := 2) (ret := some .int) (by decide) rfl ?_
  intro p e s m args below meth c s₁ B hml hv
  obtain ⟨rfl, hsz, hXs, hbl⟩ := hv
  subst hsz
  have hx := B.exec
  have hb := B.bytes
  have hr := B.returns
  have hlocks := B.notSynchronized
  have hS : va_S (fun q => s.heap.size ≤ q) s.heap s.heap [] := va_S.rf
  have hl := lv_entry ([.ref b, .int (nI k)]) (n := 2) (Nat.le_of_ble_eq_true rfl)
  rw [lg_entry_eq]
  generalize (lg_sl ([.ref b, .int (nI k)]) ++ List.replicate (2 - (lg_sl ([.ref b, .int (nI k)])).length) Slot.unset).toArray = ls at hl ⊢
  have hl : lv_has ls 2 [(0, .ref b), (1, .int (nI k))] := hl
  refine lv_iload_n hx hb xnd_LW_cell_0 rfl (lv_at hl 1 rfl) ?_
  refine lv_aload_n hx hb xnd_LW_cell_1 rfl (lv_at hl 0 rfl) ?_
  refine va_slen hx hb hXs hbl (Nat.not_le.mpr hbl) hS xnd_LW_cell_2 ?_
  have e1 : (Int32.ofNat N ≤ nI k) ↔ N ≤ k := nI_leI hN hk
  refine lv_icmp_ge (tgt := 12) hx hb xnd_LW_cell_3 (by decide) (fun h => ?_) (fun h => ?_)
  · have h9 := e1.mp h
    refine lv_iconst hx hb xnd_LW_cell_12 (v := 0) (by decide) ?_
    refine W.iret hx hb hr (fun t ht hW => ⟨?_, hS.F ht⟩) hS.2.2 xnd_LW_cell_13
    unfold xl_c
    rw [if_neg (by omega)]
  · have h9 : k < N := Nat.not_le.mp (fun z => h (e1.mpr z))
    refine lv_aload_n hx hb xnd_LW_cell_6 rfl (lv_at hl 0 rfl) ?_
    refine lv_iload_n hx hb xnd_LW_cell_7 rfl (lv_at hl 1 rfl) ?_
    refine va_sld hx hb hXs hbl (Nat.not_le.mpr hbl) hS (vp_in_nI h9 hN) xnd_LW_cell_8 ?_
    refine lv_goto (tgt := 13) hx hb xnd_LW_cell_9 (by decide) ?_
    refine W.iret hx hb hr (fun t ht hW => ⟨?_, hS.F ht⟩) hS.2.2 xnd_LW_cell_13
    unfold xl_c
    rw [if_pos h9, nI_clamp hk]
theorem xl_blind {av : List Value} {sz : Nat} : FrameBlind (va_Pc av (fun U => U.heap.size = sz ∧ va_X b N xs U U.heap ∧ b < sz)) := by
  intro a U g mk q
  obtain ⟨q0, q1, q2, q3⟩ := q
  exact ⟨q0, q1, va_X.moved (u := U) (U := U.calling g mk a) (Vm.Alike.refl U.vm) q2, q3⟩
theorem xl_callC (hX : xg_ok X l own cc nL fr lo mc ms D tys) (hB : xl_scr X b N xs) (hN : N < 2 ^ 31) (np : Nat) (hp : pc + 3 = np) {v : Int32} (k : Nat) (hv : v = nI k) (hk : k < 2 ^ 31) (rest : List Value) {idx : Nat} (hl : Cond.methodLink own idx xny_LW_cell ∈ xf_GW) (hy : xf_sta xny_LW_cell xnc_LW_cell 2 (some .int) 2) (hw : Nat.ble ((rest.map fun v => v.category).sum) 8 = true) (hR : (Nat.ble (0 + 1) fr && Nat.ble (8 + (2 + 11) + 0) lo) = true) (hcc : Nat.ble nc mc = true) (hss : Nat.ble ns ms = true) (hd : decode cc pc = .ok (.invokestatic idx, 3))
    (kk : xf_V (xf_re X ws nc ns) np L (.int (xl_c N xs k) :: rest) xg_0) : xf_V (xf_re X ws nc ns) pc L (.int v :: .ref b :: rest) xg_0 := by
  subst hp hv
  obtain ⟨p, l, e, R, s, m, args, below, meth, c, A, Q, D', tys', wf', nL0, cells, slots⟩ := X
  obtain ⟨⟨h1, h2, h4, h5⟩, hx, hb, hml, hown, hts, hK, hNW, hA, hR0, hC, hAO⟩ := hX
  obtain ⟨b1, b2, b3⟩ := hB
  obtain ⟨⟨m1, m2, m3, m4, m5⟩, m6⟩ := hy
  intro H locs ls hP hD hS hls
  have cw : CallB R s args own idx xny_LW_cell xnc_LW_cell 2 (some .int) (.code xny_LW_cell xnc_LW_cell 2 (some .int) :: xf_GW) { frames := 0, cells := 0, slots := 0, locals := 0 } 0 0 2 :=
    callB_of 2 hts (xf_good m1) rfl rfl rfl (hts _ m2) (hts _ hl) ⟨m3, m4, m5⟩ (by rw [hR0.1, hR0.2]; exact xf_ble hR)
  have hr := va_runS (e := e) (below := below) (meth := meth) (locs := locs) (cells := nc) (slots := ns) (rest := rest) (g := F0 m pc ls (.int (nI k) :: .ref b :: rest)) (nL := nL0) (Ts := xf_GW) (As := [.ref b, .int (nI k)]) ⟨hx, hb, hml, hown, hts⟩ (xl_cell l b N xs hN k hk H.size) ⟨cw, hts _ m6⟩ ⟨xl_blind, fun U hU hW => ⟨rfl, by rw [hU], by rw [hU]; exact va_X.moved hW.alike (b1.kept (hS.2.1 b b2 b3)), Nat.lt_of_lt_of_le b2 hS.1⟩⟩ rfl rfl hls.1.1 rfl (lv_room (Nat.le_of_ble_eq_true hw)) hd ⟨by rw [hC.1]; exact Nat.le_of_ble_eq_true hcc, by rw [hC.2]; exact Nat.le_of_ble_eq_true hss⟩
  intro T hT X0
  obtain ⟨v, st₀, t, T', L', h0, X', hL, e1, e2, ⟨hv, hz, hk9⟩, st⟩ := hr T hT X0
  cases hv
  rw [h0] at hz hk9
  obtain ⟨t2, a1, b1⟩ := kk T'.heap (locs ++ L') ls (hP.kept (fun k q hq => by rw [e1]; exact hk9 _ ((hP k q hq).lt) (Nat.not_le.mpr ((hP k q hq).lt)))) hD
    ⟨Nat.le_trans hS.1 (by rw [e1]; exact hz), fun q h1 h2 => by rw [e1, hk9 q (Nat.lt_of_lt_of_le h1 hS.1) (Nat.not_le.mpr (Nat.lt_of_lt_of_le h1 hS.1))]; exact hS.2.1 q h1 h2, fun q hq => by
      rcases List.mem_append.mp hq with h | h
      · exact hS.2.2 q h
      · exact hA _ (Nat.le_trans hS.1 (hL q h))⟩ hls T' rfl X'
  exact ⟨t2, st t2 a1, b1⟩
end XL
theorem xl_K {args : Array Value} {s : State} (hts : ∀ w ∈ xf_GW, w.before args s = true) (hO : va_AO xnR_RD s) : ∃ (D : va_G) (cI cZ cR : ClassId), va_K D vwCl [(cI, .int), (cZ, .boolean), (cR, .object xnR_RD)] s := by
  obtain ⟨c0, i0, k0⟩ := u_known hts xin_SC (hts _ xkI_SC)
  obtain ⟨c1, i1, k1⟩ := u_known hts xin_TA (hts _ xkI_TA)
  obtain ⟨c2, i2, k2⟩ := u_known hts xin_ST (hts _ xkI_ST)
  obtain ⟨c3, i3, k3⟩ := u_known hts xin_WR (hts _ xkI_WR)
  obtain ⟨c4, i4, k4⟩ := u_known hts xin_PA (hts _ xkI_PA)
  obtain ⟨c5, i5, k5⟩ := u_known hts xin_RD (hts _ xkI_RD)
  obtain ⟨c6, i6, k6⟩ := u_known hts xin_MO (hts _ xkI_MO)
  obtain ⟨cI, kI, pI, a1, a2, a3⟩ := Cond.arrayClass_spec (hts _ xkA_int)
  obtain ⟨cZ, kZ, pZ, z1, z2, z3⟩ := Cond.arrayClass_spec (hts _ xkA_boolean)
  obtain ⟨pR, cR, kR, r1, -, r2, r3, r4⟩ := Cond.arrayOver_spec (va_AO.use (A := #[]) hO)
  refine ⟨((fun c => match c with | 0 => c0 | 1 => c1 | 2 => c2 | 3 => c3 | 4 => c4 | 5 => c5 | _ => c6), (fun c => match c with | 0 => i0 | 1 => i1 | 2 => i2 | 3 => i3 | 4 => i4 | 5 => i5 | _ => i6)), cI, cZ, cR, ?_, ?_⟩
  · intro c q hq
    match c, hq with
    | 0, hq => cases hq; exact k0
    | 1, hq => cases hq; exact k1
    | 2, hq => cases hq; exact k2
    | 3, hq => cases hq; exact k3
    | 4, hq => cases hq; exact k4
    | 5, hq => cases hq; exact k5
    | 6, hq => cases hq; exact k6
    | c + 7, hq => exact absurd (List.getElem?_eq_some_iff.mp hq).1 (by show ¬ c + 7 < 7; omega)
  · intro k q hq
    match k, hq with
    | 0, hq => cases hq; exact ⟨fun n z => ⟨fun k h => (by cases h), kI, a2, pI, a3⟩, a1⟩
    | 1, hq => cases hq; exact ⟨fun n z => ⟨fun k h => (by cases h), kZ, z2, pZ, z3⟩, z1⟩
    | 2, hq => cases hq; exact ⟨fun n z => ⟨fun k h => (by cases h), kR, r2, pR, r3⟩, kR, pR, r2, r3, r1, r4⟩
    | k + 3, hq => exact absurd (List.getElem?_eq_some_iff.mp hq).1 (by show ¬ k + 3 < 3; omega)
/-! the start, both sides -/
def xl_s (w : Nat) : xf_T := (fun k => if k = 9 then -1 else 0, fun j => if j = 5 then (fun p => if p < 8 * w then -1 else 0) else fun _ => 0)
def xl_t : xf_T := (fun k => if k = 4 then -1 else 0, fun _ _ => 0)
theorem xl_mny : ∀ n, xm_mny (fun _ => 0) n = 0
  | 0 => rfl
  | n + 1 => by rw [xm_mny, xl_mny n]; decide
theorem xl_R {n w : Nat} (hn : 1 ≤ n ∧ n ≤ 32) (hw : 1 ≤ w ∧ w ≤ 4) : xr_R n w (xl_s w) xl_t := by
  have h1 : ∀ q ∈ xr_sc, q.1 ≠ 9 ∧ q.2 ≠ 4 := by decide +kernel
  have h2 : ∀ q ∈ xr_ar, q.1 ≠ 5 := by decide +kernel
  refine ⟨⟨fun q hq => ?_, fun q hq i hi => ?_, fun i hi => rfl, fun p hp => ?_, fun i _ _ => rfl, fun p hp => Or.inl ?_, fun i hi => ⟨Or.inl rfl, Or.inl rfl⟩, ?_, ⟨0, by omega, rfl⟩, by omega⟩, ⟨fun h => absurd (show (-1 : Int32) = 0 from h) (by decide), fun _ => ⟨rfl, rfl⟩⟩, fun q hq => ?_⟩
  · show (if q.1 = 9 then (-1 : Int32) else 0) = if q.2 = 4 then -1 else 0
    rw [if_neg (h1 q hq).1, if_neg (h1 q hq).2]
  · show (if q.1 = 5 then (fun p => if p < 8 * w then (-1 : Int32) else 0) else fun _ => 0) i = 0
    rw [if_neg (h2 q hq)]
  · show (0 : Int32) = (if p < 8 * w then (-1 : Int32) else 0) + 1
    rw [if_pos hp]; decide
  · show (if p < 8 * w then (-1 : Int32) else 0) = -1
    rw [if_pos hp]
  · show (0 : Int32) = xm_mny (fun _ => 0) n
    rw [xl_mny]
  · have e : ∀ k, 24 ≤ k → (xl_s w).1 k = 0 := fun k hk => by show (if k = 9 then (-1 : Int32) else 0) = 0; rw [if_neg (by omega)]
    exact xr_rd_in 0 (by omega) (e _ (by omega)) rfl (e _ (by omega)) (e _ (by omega)) (fun h => absurd h (by omega)) (fun h => absurd h (by omega)) (fun h => absurd h (by omega)) (fun h => absurd h (by omega))
/-- one more call fits the script -/
theorem xl_le {N j : Nat} (hN : N ≤ 3074) (hj : j ≤ 4000) (h : ¬ nI N - 6 < nI j) : j + 6 ≤ N := by
  rw [Int32.lt_iff_toInt_lt, Int32.toInt_sub] at h
  have e1 : (nI N).toInt = N := Int32.toInt_ofNat_of_lt (by omega)
  have e2 : (nI j).toInt = j := Int32.toInt_ofNat_of_lt (by omega)
  rw [e1, e2, show (6 : Int32).toInt = 6 from rfl, Int.bmod_eq_of_le (by omega) (by omega)] at h
  omega
