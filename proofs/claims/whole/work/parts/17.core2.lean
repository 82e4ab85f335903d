/-! Counting the used items; remove, stamp, insert, side by side. -/
def xr_cn (f : Nat → Int32) : Nat → Nat
  | 0 => 0
  | n + 1 => xr_cn f n + (if f n = 0 then 0 else 1)
theorem xr_mny (f : Nat → Int32) : ∀ n, xm_mny f n = nI (xr_cn f n)
  | 0 => rfl
  | n + 1 => by
    rw [xm_mny, xr_cn, xr_mny f n]
    split
    · rw [show (0 : Int32) = nI 0 from rfl, nI_add]
    · rw [show (1 : Int32) = nI 1 from rfl, nI_add]
theorem xr_cn_le (f : Nat → Int32) : ∀ n, xr_cn f n ≤ n
  | 0 => Nat.le_refl _
  | n + 1 => by
    have := xr_cn_le f n
    rw [xr_cn]
    split <;> omega
theorem xr_cn_all {f : Nat → Int32} : ∀ {n : Nat}, (∀ i, i < n → ¬ f i = 0) → xr_cn f n = n
  | 0, _ => rfl
  | n + 1, h => by
    rw [xr_cn, xr_cn_all (fun i hi => h i (by omega)), if_neg (h n (by omega))]
theorem xr_cn_lt {f : Nat → Int32} : ∀ {n i : Nat}, i < n → f i = 0 → xr_cn f n < n
  | n + 1, i, hi, hf => by
    have h1 := xr_cn_le f n
    rw [xr_cn]
    by_cases hin : i = n
    · subst hin
      rw [if_pos hf]
      omega
    · have h2 := xr_cn_lt (f := f) (n := n) (i := i) (by omega) hf
      split <;> omega
theorem xr_cn_ex {f : Nat → Int32} {n : Nat} (h : xr_cn f n ≠ n) : ∃ i, i < n ∧ f i = 0 := by
  apply Classical.byContradiction
  intro hn
  exact h (xr_cn_all (fun i hi e => hn ⟨i, hi, e⟩))
theorem xr_cn_out {f : Nat → Int32} {p : Nat} {v : Int32} : ∀ {n : Nat}, n ≤ p → xr_cn (upd f p v) n = xr_cn f n
  | 0, _ => rfl
  | n + 1, h => by
    rw [xr_cn, xr_cn, xr_cn_out (n := n) (by omega), pk_un (by omega)]
theorem xr_cn_add {f : Nat → Int32} {p : Nat} {v : Int32} (hv : ¬ v = 0) : ∀ {n : Nat}, p < n → f p = 0 → xr_cn (upd f p v) n = xr_cn f n + 1
  | n + 1, hp, hf => by
    rw [xr_cn, xr_cn]
    by_cases hpn : p = n
    · subst hpn
      rw [xr_cn_out (Nat.le_refl _), pk_us, if_neg hv, if_pos hf]
    · rw [xr_cn_add hv (n := n) (by omega) hf, pk_un (Ne.symm hpn)]
      omega
theorem xr_cn_sub {f : Nat → Int32} {p : Nat} : ∀ {n : Nat}, p < n → ¬ f p = 0 → xr_cn (upd f p 0) n + 1 = xr_cn f n
  | n + 1, hp, hf => by
    rw [xr_cn, xr_cn]
    by_cases hpn : p = n
    · subst hpn
      rw [xr_cn_out (Nat.le_refl _), pk_us, if_pos rfl, if_neg hf]
    · have := xr_cn_sub (n := n) (p := p) (f := f) (by omega) hf
      rw [pk_un (Ne.symm hpn)]
      omega
theorem xr_cn_cg {f g : Nat → Int32} : ∀ {n : Nat}, (∀ i, i < n → f i = g i) → xr_cn f n = xr_cn g n
  | 0, _ => rfl
  | n + 1, h => by
    rw [xr_cn, xr_cn, xr_cn_cg (fun i hi => h i (by omega)), h n (by omega)]
section XR2
variable {n w : Nat} {σ τ : xf_T}
theorem xr_core.b31 (h : xr_core n w σ τ) : n < 2 ^ 31 ∧ 8 * w < 2 ^ 31 := by
  have := h.2.2.2.2.2.2.2.2.2
  omega
theorem xr_add1 {x y : Int32} : x + 1 = y + 1 ↔ x = y := by
  constructor
  · intro h
    have := congrArg (fun z => z - 1) h
    simpa using this
  · intro h; rw [h]
/-- full or not, on both sides -/
theorem xr_core.full (h : xr_core n w σ τ) : (σ.1 6 = nI n ↔ xr_cn (σ.2 11) n = n) ∧ (xm_mny (τ.2 2) n = nI n ↔ xr_cn (σ.2 11) n = n) := by
  have hb := h.b31
  have e : xr_cn (τ.2 2) n = xr_cn (σ.2 11) n := xr_cn_cg (fun i hi => (h.ar 11 2 (by decide) hi).symm)
  have hle := xr_cn_le (σ.2 11) n
  constructor
  · rw [h.2.2.2.2.2.2.2.1, xr_mny, nI_eq (by omega) (by omega)]
  · rw [xr_mny, e, nI_eq (by omega) (by omega)]
theorem xr_core.remove (h : xr_core n w σ τ) {i : Nat} (hi : i < n) (hu : σ.2 11 i = 1) : xr_core n w (xs_remove w σ (nI i)) (xm_rem w τ (nI i)) := by
  have hb := h.b31
  have ecl : (nI i).toNatClampNeg = i := nI_clamp (by omega)
  have hk : σ.2 6 i = τ.2 3 i := h.ar 6 3 (by decide) hi
  have core : xr_core n w (xs_rm2 w σ (nI i)) (xm_rm1 w τ (nI i)) := by
    obtain ⟨h1, h2, h3, h4, h5, h6, h7, h8, h9, h10⟩ := h
    unfold xs_rm2 xs_rm1 xm_rm1
    rw [ecl]
    have sc6 : ∀ q ∈ xr_sc, q.1 ≠ 6 := by decide +kernel
    have nn : ∀ q ∈ xr_ar, q.1 ≠ 5 ∧ q.2 ≠ 1 ∧ (q.1 = 11 ↔ q.2 = 2) := by decide +kernel
    refine ⟨fun q hq => ?_, fun q hq x hx => ?_, h3, fun p hp => ?_, fun x a b => ?_, fun p hp => ?_, fun x hx => ⟨?_, (h7 x hx).2⟩, ?_, ?_, h10⟩
    · rw [xs_I1, if_neg (sc6 q hq)]; exact h1 q hq
    · obtain ⟨n1, n2, n3⟩ := nn q hq
      rw [xs_I2, xs_A2, xs_A2, xs_sA2, xs_sA2, xs_sA2, xs_sA2, if_neg n1, if_neg n2]
      by_cases hc : q.1 = 11
      · rw [if_pos hc, if_pos (n3.mp hc), if_neg (by decide), if_neg (by decide)]
        by_cases hx2 : x = i
        · subst hx2
          rw [pk_us, pk_us]
        · rw [pk_un hx2, pk_un hx2]
          exact h2 (11, 2) (by decide) x hx
      · rw [if_neg hc, if_neg (fun e => hc (n3.mpr e))]
        exact h2 q hq x hx
    · show xm_rmf (8 * w) (τ.2 1) (nI i) p = xs_rmf (8 * w) (σ.2 5) (nI i) p + 1
      rw [xs_rmf, xm_rmf, if_pos hp, if_pos hp, h4 p hp]
      by_cases hc : σ.2 5 p = nI i
      · rw [if_pos hc, if_pos (by rw [hc])]; rfl
      · rw [if_neg hc, if_neg (fun e => hc (xr_add1.mp e))]
    · rw [xs_A2, if_pos rfl, pk_un (by omega), xs_sA2, if_neg (by decide)]
      exact h5 x a b
    · show xs_rmf (8 * w) (σ.2 5) (nI i) p = -1 ∨ ∃ x, x < n ∧ xs_rmf (8 * w) (σ.2 5) (nI i) p = nI x ∧ upd (σ.2 11) i 0 x = 1
      rw [xs_rmf, if_pos hp]
      by_cases hc : σ.2 5 p = nI i
      · rw [if_pos hc]; exact Or.inl rfl
      · rw [if_neg hc]
        rcases h6 p hp with g | ⟨x, x1, x2, x3⟩
        · exact Or.inl g
        · refine Or.inr ⟨x, x1, x2, ?_⟩
          have hxi : x ≠ i := fun e => hc (by rw [x2, e])
          rw [pk_un hxi]; exact x3
    · rw [xs_I2, xs_A2, if_pos rfl, xs_sA2, if_neg (by decide)]
      by_cases hx2 : x = i
      · subst hx2
        rw [pk_us]; exact Or.inl rfl
      · rw [pk_un hx2]; exact (h7 x hx).1
    · rw [xs_I1, if_pos rfl, xs_I2, xs_A2, if_pos rfl, xs_sA2, if_neg (by decide), xr_mny]
      show σ.1 6 - 1 = _
      rw [h8, xr_mny, ← xr_cn_sub hi (by rw [hu]; decide), nI_succ]
      simp
    · exact h9
  have := core.grow (σ.2 6 i) 2
  unfold xs_remove xm_rem
  rw [ecl, ← hk]
  exact this
theorem xr_core.renew (h : xr_core n w σ τ) {i : Nat} (hi : i < n) : xr_core n w (xs_renew σ (nI i) (σ.1 14)) (xm_stamp τ (nI i)) := by
  have e8 : σ.1 8 = τ.1 2 := h.sc 8 2 (by decide)
  have e7 : σ.1 7 = τ.1 0 := h.sc 7 0 (by decide)
  have e14 : σ.1 14 = τ.1 8 := h.sc 14 8 (by decide)
  unfold xs_renew xm_stamp
  refine xr_core.bA (xr_core.bA (xr_core.bI h (by rw [e8]) (by decide)) (by rw [e8]) (by decide)) ?_ (by decide)
  rw [e14, e7]
end XR2
