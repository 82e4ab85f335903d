/-- from the entry, for every script, the law comes to its end with true -/
theorem whole_start {p : Program} {e : Env} {s : State} {m : MethodId} {below : List Frame} {meth : Method} {c : Code} (l : Launch) {b L : Nat} {xs : Nat → Int32} (hL : L ≤ 3074) (C0 : lw_At p s m meth c b L xs) : W p l e room_1 s m #[Value.ref b] below meth c s.heap [] 0 0 (lw_Z below #[Value.ref b] s) (entryFrame m ([Value.ref b] : List Value).toArray 4) := by
  obtain ⟨hx, hb, hr, hml, hown, hts, hXs, hbl, hlk, -⟩ := C0
  have htsG : ∀ w ∈ xf_GW, w.before #[Value.ref b] s = true := fun w hw => hts w (List.mem_filter.mp hw).1
  have hNW : xf_NW s := fun w hw => by
    have hk := (List.mem_filter.mp hw).2
    have h0 := hts w (List.mem_filter.mp hw).1
    cases w <;> first | exact va_Nw.of rfl h0 | (simp [xf_nest] at hk)
  have hAO := xl_AO hts
  obtain ⟨D, cI, cZ, cR, hK⟩ := xl_K htsG hAO
  have hV := xl_run (X := (p, l, e, room_1, s, m, #[Value.ref b], below, meth, c, (fun q => s.heap.size ≤ q), lw_Z below #[Value.ref b] s, D, [(cI, .int), (cZ, .boolean), (cR, .object xnR_RD)], (fun _ => []), 4, 0, 0)) hL ⟨⟨rfl, rfl, rfl, rfl⟩, hx, hb, hml, hown, htsG, hK, hNW, fun q h => h, ⟨rfl, rfl⟩, ⟨rfl, rfl⟩, hAO⟩ ⟨hXs, hbl, Nat.not_le.mpr hbl⟩
    (fun wf σ L nc ns h1 h2 H locs ls hP hD hS hl => va_forget (fun q hq => hS.2.2 q hq) (W.widen (Nat.le_of_ble_eq_true h1) (Nat.le_of_ble_eq_true h2) (lw_ret hx hb hr hlk xnd_LW_law_557)))
  have hl := lv_entry [Value.ref b] (n := 4) (Nat.le_of_ble_eq_true rfl)
  rw [lg_entry_eq]
  exact hV s.heap [] _ (fun k q h => by simp at h) ⟨fun i j p q h => by simp at h, fun k q h => by simp at h⟩ va_S.rf ⟨hl, xf_cat rfl⟩
