/-! The class and the reference stand side by side: the whole relation, and what it gives. -/
/-- where a write stands, on both sides: what holds before step k -/
def xr_at (n w : Nat) (σ τ : xf_T) (k : Int32) : Prop :=
  k = 0 ∨ ((k = 1 ∨ k = 2) ∧ ∃ c, c < n ∧ σ.1 17 = nI c ∧ τ.1 10 = nI c) ∨ (k = 3 ∧ ∀ i, i < n → σ.2 11 i = 1) ∨ (k = 4 ∧ ∃ i, i < n ∧ σ.2 11 i = 0) ∨
  ((k = 5 ∨ k = 6) ∧ (∃ i, i < n ∧ σ.2 11 i = 0) ∧ ∃ (m : Nat) (pt : Nat → Nat), m < 4 ∧ σ.1 18 = nI m ∧ τ.1 12 = nI m ∧ (∀ j, j ≤ m + 1 → σ.2 14 j = nI (pt j) ∧ τ.2 9 j = nI (pt j) ∧ pt j < 8 * w) ∧ (∀ j, j ≤ m → ¬ σ.2 5 (pt j) = -1) ∧ ∀ i j, i < j → j ≤ m + 1 → pt i ≠ pt j) ∨
  (k = 7 ∧ (∃ i, i < n ∧ σ.2 11 i = 0) ∧ ∃ s, s < 8 * w ∧ σ.2 14 0 = nI s ∧ τ.2 9 0 = nI s)
def xr_kd (σ : xf_T) : Prop := σ.1 11 = 0 ∨ σ.1 11 = 1 ∨ σ.1 11 = 2 ∨ σ.1 11 = 3 ∨ σ.1 11 = 4
def xr_wr (n w : Nat) (σ τ : xf_T) : Prop := (σ.1 9 = 0 → τ.1 3 = σ.1 16 + 1 ∧ xr_kd σ ∧ xr_at n w σ τ (σ.1 16)) ∧ (¬ σ.1 9 = 0 → τ.1 3 = 0 ∧ τ.1 4 = σ.1 9)
def xr_rd (n : Nat) (σ τ : xf_T) (q : Nat) : Prop :=
  σ.1 (24 + 8 * q) = τ.2 10 q ∧ σ.1 (24 + 8 * q + 3) = τ.2 11 q ∧ σ.1 (24 + 8 * q + 4) = τ.2 13 q ∧ (∃ s, s ≤ 8 ∧ σ.1 (24 + 8 * q) = nI s) ∧
  (σ.1 (24 + 8 * q) = 2 ∨ σ.1 (24 + 8 * q) = 3 ∨ σ.1 (24 + 8 * q) = 4 ∨ σ.1 (24 + 8 * q) = 5 → σ.1 (24 + 8 * q + 5) = τ.2 12 q) ∧
  (σ.1 (24 + 8 * q) = 4 → ∃ i, i < n ∧ σ.1 (24 + 8 * q + 6) = nI i ∧ τ.2 14 q = nI (i + 1)) ∧
  (σ.1 (24 + 8 * q) = 5 → (σ.1 (24 + 8 * q + 6) = -1 ∧ τ.2 14 q = 0) ∨ ∃ i, i < n ∧ σ.1 (24 + 8 * q + 6) = nI i ∧ τ.2 14 q = nI (i + 1) ∧ σ.1 (24 + 8 * q + 1) = τ.2 15 q ∧ σ.1 (24 + 8 * q + 2) = τ.2 16 q ∧ σ.1 (24 + 8 * q + 7) = τ.2 17 q) ∧
  (σ.1 (24 + 8 * q) = 7 → σ.1 (24 + 8 * q + 1) = τ.2 15 q ∧ σ.1 (24 + 8 * q + 2) = τ.2 16 q)
def xr_rds (n : Nat) (σ τ : xf_T) : Prop := ∀ q, q < 3 → xr_rd n σ τ q
def xr_R (n w : Nat) (σ τ : xf_T) : Prop := xr_core n w σ τ ∧ xr_wr n w σ τ ∧ xr_rds n σ τ
/-! what leaves the readers alone -/
def xr_kc (σ σ' : xf_T) : Prop := ∀ k, 24 ≤ k → σ'.1 k = σ.1 k
def xr_km (τ τ' : xf_T) : Prop := ∀ j, 10 ≤ j → τ'.2 j = τ.2 j
section XRL
variable {n w : Nat} {σ σ' τ τ' : xf_T}
theorem xr_rd_cg {q : Nat} (hc : ∀ k, k < 8 → σ'.1 (24 + 8 * q + k) = σ.1 (24 + 8 * q + k)) (hm : ∀ j, 10 ≤ j → τ'.2 j q = τ.2 j q) (h : xr_rd n σ τ q) : xr_rd n σ' τ' q := by
  unfold xr_rd
  rw [show σ'.1 (24 + 8 * q) = σ.1 (24 + 8 * q) from hc 0 (by omega), hc 1 (by omega), hc 2 (by omega), hc 3 (by omega), hc 4 (by omega), hc 5 (by omega), hc 6 (by omega), hc 7 (by omega), hm 10 (by omega), hm 11 (by omega), hm 12 (by omega), hm 13 (by omega), hm 14 (by omega), hm 15 (by omega), hm 16 (by omega), hm 17 (by omega)]
  exact h
theorem xr_rds.cg (h : xr_rds n σ τ) (hc : xr_kc σ σ') (hm : xr_km τ τ') : xr_rds n σ' τ' := fun q hq => xr_rd_cg (fun k _ => hc _ (by omega)) (fun j hj => by rw [hm j hj]) (h q hq)
theorem xr_kc.rf : xr_kc σ σ := fun _ _ => rfl
theorem xr_km.rf : xr_km τ τ := fun _ _ => rfl
theorem xr_kc.I (h : xr_kc σ σ') {k : Nat} {v : Int32} (hk : k < 24) : xr_kc σ (xf_I σ' k v) := fun j hj => by rw [xs_I1, if_neg (by omega)]; exact h j hj
theorem xr_kc.A (h : xr_kc σ σ') {j i : Nat} {v : Int32} : xr_kc σ (xf_A σ' j i v) := h
theorem xr_kc.sA (h : xr_kc σ σ') {j : Nat} {f : Nat → Int32} : xr_kc σ (xs_sA σ' j f) := h
theorem xr_kc.grow (h : xr_kc σ σ') (k d : Int32) : xr_kc σ (xs_grow σ' k d) := h
theorem xr_kc.remove (h : xr_kc σ σ') (i : Int32) : xr_kc σ (xs_remove w σ' i) := (xr_kc.I (σ' := xs_rm1 w σ' i) h (by omega) : xr_kc σ (xs_rm2 w σ' i))
theorem xr_kc.renew (h : xr_kc σ σ') (i l : Int32) : xr_kc σ (xs_renew σ' i l) := (xr_kc.I h (by omega) : xr_kc σ (xf_I σ' 8 (σ'.1 8 + 1)))
theorem xr_kc.lk (h : xr_kc σ σ') (key : Int32) : xr_kc σ (xs_lk w σ' key) := fun j hj => by rw [xs_lk_1 _ _ _ (by omega)]; exact h j hj
theorem xr_kc.turn (h : xr_kc σ σ') : xr_kc σ (xs_turn n σ') := xr_kc.I h (by omega)
theorem xr_kc.evl : ∀ (r : Nat) {σ' : xf_T}, xr_kc σ σ' → xr_kc σ (xs_evl n r σ')
  | 0, _, h => h
  | r + 1, σ', h => by
    rw [xs_evl]
    split
    · exact h
    · exact xr_kc.evl r (xr_kc.turn (σ' := xf_A σ' 10 (σ'.1 10).toNatClampNeg 0) h)
theorem xr_kc.chM (h : xr_kc σ σ') : xr_kc σ (xs_chM σ') := xr_kc.I (xr_kc.I h (by omega)) (by omega)
theorem xr_km.I (h : xr_km τ τ') {k : Nat} {v : Int32} : xr_km τ (xf_I τ' k v) := h
theorem xr_km.A (h : xr_km τ τ') {j i : Nat} {v : Int32} (hj : j < 10) : xr_km τ (xf_A τ' j i v) := fun k hk => by rw [xs_A2, if_neg (by omega)]; exact h k hk
theorem xr_km.sA (h : xr_km τ τ') {j : Nat} {f : Nat → Int32} (hj : j < 10) : xr_km τ (xs_sA τ' j f) := fun k hk => by rw [xs_sA2, if_neg (by omega)]; exact h k hk
theorem xr_km.grow (h : xr_km τ τ') (k d : Int32) : xr_km τ (xm_grow τ' k d) := xr_km.A h (by omega)
theorem xr_km.rem (h : xr_km τ τ') (i : Int32) : xr_km τ (xm_rem w τ' i) := xr_km.grow (τ' := xm_rm1 w τ' i) (xr_km.A (xr_km.sA h (by omega)) (by omega)) _ _
theorem xr_km.stamp (h : xr_km τ τ') (i : Int32) : xr_km τ (xm_stamp τ' i) := xr_km.A (xr_km.A (xr_km.I h) (by omega)) (by omega)
theorem xr_km.lb (h : xr_km τ τ') (key : Int32) : xr_km τ (xm_lb w τ' key) := fun j hj => by rw [xm_lb_2]; exact h j hj
theorem xr_km.fin (h : xr_km τ τ') (v : Int32) : xr_km τ (xm_fin τ' v) := h
theorem xr_km.evl : ∀ (r : Nat) {τ' : xf_T}, xr_km τ τ' → xr_km τ (xm_evl n r τ')
  | 0, _, h => h
  | r + 1, τ', h => by
    rw [xm_evl]
    split
    · exact h
    · exact xr_km.evl r (xr_km.A (j := 7) (i := (τ'.1 1).toNatClampNeg) (v := 0) h (by omega))
/-! the relation gives what the walks need -/
theorem xr_core.okP (h : xr_core n w σ τ) : xs_okP n w σ ∧ xm_okP n w τ := by
  refine ⟨⟨fun p hp => ?_, h.2.2.2.2.2.2.2.2.2⟩, ⟨fun p hp => ?_, h.2.2.2.2.2.2.2.2.2⟩⟩
  · rcases h.2.2.2.2.2.1 p hp with g | ⟨i, g1, g2, -⟩
    · exact Or.inl g
    · exact Or.inr ⟨i, g1, g2⟩
  · rw [h.2.2.2.1 p hp]
    rcases h.2.2.2.2.2.1 p hp with g | ⟨i, g1, g2, -⟩
    · rw [g]; exact Or.inl rfl
    · rw [g2, nI_1]; exact Or.inr ⟨i, g1, rfl⟩
theorem xr_core.okH (h : xr_core n w σ τ) : xs_okH n σ ∧ xm_okH n τ := by
  obtain ⟨k, k1, k2⟩ := h.2.2.2.2.2.2.2.2.1
  exact ⟨⟨k, k1, k2⟩, k, k1, by rw [← h.sc 10 1 (by decide)]; exact k2⟩
/-- a write ends, on both sides -/
theorem xr_fin (hc : xr_core n w σ τ) (hr : xr_rds n σ τ) {v : Int32} (hv : ¬ v = 0) : xr_R n w (xf_I σ 9 v) (xm_fin τ v) := by
  refine ⟨(hc.oI (by decide)).oJ (by decide) |>.oJ (by decide), ⟨fun h => ?_, fun _ => ⟨rfl, rfl⟩⟩, hr.cg (xr_kc.I xr_kc.rf (by omega)) xr_km.rf⟩
  exact absurd h hv
/-- a write goes on to step k, on both sides -/
theorem xr_goto (hc : xr_core n w σ τ) (hr : xr_rds n σ τ) (h9 : σ.1 9 = 0) (hk : xr_kd σ) {k k' : Int32} (hk' : k' = k + 1) (ha : xr_at n w σ τ k) : xr_R n w (xf_I σ 16 k) (xf_I τ 3 k') :=
  ⟨(hc.oI (by decide)).oJ (by decide), ⟨fun _ => ⟨hk', hk, ha⟩, fun h => absurd h9 h⟩, hr.cg (xr_kc.I xr_kc.rf (by omega)) xr_km.rf⟩
theorem xr_lit {a b : Int32} (h : ¬ a = b) (e : (7 : Int32) = 7 := rfl) : ¬ a = b := h
/-- what a step of the writer needs, on both sides -/
theorem xr_R.okW (h : xr_R n w σ τ) (h9 : σ.1 9 = 0) : xs_okW n w σ ∧ xm_okW n w τ := by
  obtain ⟨hc, hw, -⟩ := h
  obtain ⟨e3, hk, ha⟩ := hw.1 h9
  have hb := hc.b31
  have hn := hc.2.2.2.2.2.2.2.2.2
  have mi : ∀ {m : Nat} {pt : Nat → Nat}, σ.1 18 = nI m → m < 4 → (∀ j, j ≤ m + 1 → σ.2 14 j = nI (pt j) ∧ τ.2 9 j = nI (pt j) ∧ pt j < 8 * w) → (∀ j, j ≤ m → ¬ σ.2 5 (pt j) = -1) → τ.1 12 = nI m →
      (vp_in (σ.1 18) 5 ∧ vp_in (σ.1 18 + 1) 5 ∧ vp_in (σ.2 14 (σ.1 18).toNatClampNeg) (8 * w) ∧ vp_in (σ.2 14 (σ.1 18 + 1).toNatClampNeg) (8 * w) ∧ vp_in (xs_mi σ) n) ∧
      (vp_in (τ.1 12) 5 ∧ (τ.1 3 = 6 → vp_in (τ.1 12 + 1) 5 ∧ vp_in (τ.2 9 (τ.1 12 + 1).toNatClampNeg) 32) ∧ vp_in (τ.2 9 (τ.1 12).toNatClampNeg) 32 ∧ vp_in (xm_mi τ) 32) := by
    intro m pt e18 hm hp ho e12
    obtain ⟨a1, a2, a3⟩ := hp m (by omega)
    obtain ⟨b1, b2, b3⟩ := hp (m + 1) (by omega)
    have hoc := ho m (by omega)
    unfold xs_mi xm_mi
    rw [e18, e12, nI_1, nI_clamp (by omega), nI_clamp (by omega), a1, a2, b1, b2, nI_clamp (by omega)]
    refine ⟨⟨vp_in_nI (by omega) (by omega), vp_in_nI (by omega) (by omega), vp_in_nI a3 (by omega), vp_in_nI b3 (by omega), hc.okP.1.in a3 hoc⟩, vp_in_nI (by omega) (by omega), fun _ => ⟨vp_in_nI (by omega) (by omega), vp_in_nI (by omega) (by omega)⟩, vp_in_nI (by omega) (by omega), ?_⟩
    exact hc.okP.2.in a3 (fun e => hoc ((hc.pl0 a3).2.2.2.mp e))
  rcases ha with k0 | ⟨k12, c, c1, c2, c3⟩ | ⟨k3, -⟩ | ⟨k4, -⟩ | ⟨k56, -, m, pt, m1, m2, m3, m4, m5, -⟩ | ⟨k7, -, s, s1, s2, s3⟩
  · rw [k0] at e3
    refine ⟨⟨hc.okP.1, hc.okH.1, ?_⟩, hc.okP.2, hc.okH.2, ?_⟩
    · rw [k0]
      exact ⟨fun h => absurd h (by decide), fun h => absurd h (by decide), fun h => absurd h (by decide), fun h => absurd rfl h⟩
    · rw [e3, ← hc.sc 11 5 (by decide)]
      exact ⟨hk, fun h => absurd h (by decide), fun h => absurd h (by decide), fun h => absurd rfl h⟩
  · refine ⟨⟨hc.okP.1, hc.okH.1, fun _ => by rw [c2]; exact vp_in_nI c1 (by omega), ?_⟩, hc.okP.2, hc.okH.2, ?_, fun _ => by rw [c3]; exact vp_in_nI (by omega) (by omega), ?_⟩
    · rcases k12 with k | k <;> rw [k]
      · exact ⟨fun h => absurd h (by decide), fun h => absurd h (by decide), fun _ h => absurd rfl h⟩
      · exact ⟨fun h => absurd h (by decide), fun h => absurd h (by decide), fun _ _ h => absurd rfl h⟩
    · rw [← hc.sc 11 5 (by decide)]; exact hk
    · rcases k12 with k | k <;> rw [k] at e3 <;> rw [e3]
      · exact ⟨fun h => absurd h (by decide), fun _ h => absurd rfl h⟩
      · exact ⟨fun h => absurd h (by decide), fun _ _ h => absurd rfl h⟩
  · rw [k3] at e3
    refine ⟨⟨hc.okP.1, hc.okH.1, ?_⟩, hc.okP.2, hc.okH.2, ?_⟩
    · rw [k3]
      exact ⟨fun h => absurd h (by decide), fun h => absurd h (by decide), fun h => absurd h (by decide), fun _ _ _ h => absurd rfl h⟩
    · rw [e3, ← hc.sc 11 5 (by decide)]
      exact ⟨hk, fun h => absurd h (by decide), fun h => absurd h (by decide), fun _ _ _ h => absurd rfl h⟩
  · rw [k4] at e3
    refine ⟨⟨hc.okP.1, hc.okH.1, ?_⟩, hc.okP.2, hc.okH.2, ?_⟩
    · rw [k4]
      exact ⟨fun h => absurd h (by decide), fun h => absurd h (by decide), fun h => absurd h (by decide), fun _ _ _ _ h => absurd rfl h⟩
    · rw [e3, ← hc.sc 11 5 (by decide)]
      exact ⟨hk, fun h => absurd h (by decide), fun h => absurd h (by decide), fun _ _ _ _ h => absurd rfl h⟩
  · obtain ⟨g1, g2⟩ := mi m2 m1 m4 m5 m3
    refine ⟨⟨hc.okP.1, hc.okH.1, ?_, fun _ => g1, fun _ => ⟨g1.1, g1.2.2.1, g1.2.2.2.2⟩, ?_⟩, hc.okP.2, hc.okH.2, ?_, ?_, fun _ => g2, ?_⟩
    · rcases k56 with k | k <;> rw [k] <;> exact fun h => absurd h (by decide)
    · rcases k56 with k | k <;> rw [k]
      · exact fun _ _ _ _ _ h => absurd rfl h
      · exact fun _ _ _ _ _ _ h => absurd rfl h
    · rw [← hc.sc 11 5 (by decide)]; exact hk
    · rcases k56 with k | k <;> rw [k] at e3 <;> rw [e3] <;> exact fun h => absurd h (by decide)
    · rcases k56 with k | k <;> rw [k] at e3 <;> rw [e3]
      · exact fun _ _ _ _ _ h => absurd rfl h
      · exact fun _ _ _ _ _ _ h => absurd rfl h
  · rw [k7] at e3
    refine ⟨⟨hc.okP.1, hc.okH.1, ?_⟩, hc.okP.2, hc.okH.2, ?_⟩
    · rw [k7, s2]
      exact ⟨fun h => absurd h (by decide), fun h => absurd h (by decide), fun h => absurd h (by decide), fun _ _ _ _ _ _ _ => vp_in_nI s1 (by omega)⟩
    · rw [e3, ← hc.sc 11 5 (by decide), s3]
      exact ⟨hk, fun h => absurd h (by decide), fun h => absurd h (by decide), fun _ _ _ _ _ _ _ => vp_in_nI (by omega) (by omega)⟩
theorem xr_R.okR (h : xr_R n w σ τ) {q : Nat} (hq : q < 3) : xs_okR n w (24 + 8 * q) σ ∧ xm_okR n w τ q := by
  obtain ⟨hc, -, hr⟩ := h
  obtain ⟨r1, r2, r3, r4, r5, r6, r7, r8⟩ := hr q hq
  have hn := hc.2.2.2.2.2.2.2.2.2
  refine ⟨⟨hc.okP.1, fun h4 => ?_, fun h5 hne => ?_⟩, hc.okP.2, fun h4 => ?_, fun h5 hne => ?_⟩
  · obtain ⟨i, i1, i2, -⟩ := r6 h4
    rw [i2]; exact vp_in_nI i1 (by omega)
  · rcases r7 h5 with ⟨g, -⟩ | ⟨i, i1, i2, -⟩
    · exact absurd g hne
    · rw [i2]; exact vp_in_nI i1 (by omega)
  · rw [← r1] at h4
    obtain ⟨i, i1, -, i3⟩ := r6 h4
    rw [i3, nI_pred]; exact vp_in_nI (by omega) (by omega)
  · rw [← r1] at h5
    rcases r7 h5 with ⟨-, g⟩ | ⟨i, i1, -, i3, -⟩
    · rw [g] at hne; exact absurd (by decide) hne
    · rw [i3, nI_pred]; exact vp_in_nI (by omega) (by omega)
end XRL
