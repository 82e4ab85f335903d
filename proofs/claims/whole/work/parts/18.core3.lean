/-! Finding, near misses, the lowest free item, inserting, evicting, side by side. -/
theorem xs_fi_is (pl ky : Nat → Int32) (key : Int32) : ∀ (r p : Nat), xs_fi pl ky key r p = -1 ∨ ∃ q, p ≤ q ∧ q < p + r ∧ xs_fi pl ky key r p = nI q ∧ ¬ pl q = -1 ∧ ky (pl q).toNatClampNeg = key
  | 0, p => Or.inl rfl
  | r + 1, p => by
    rw [xs_fi]
    by_cases h1 : pl p = -1
    · rw [if_pos h1]
      rcases xs_fi_is pl ky key r (p + 1) with h | ⟨q, a, b, c⟩
      · exact Or.inl h
      · exact Or.inr ⟨q, by omega, by omega, c⟩
    · rw [if_neg h1]
      by_cases h2 : ky (pl p).toNatClampNeg = key
      · rw [if_pos h2]
        exact Or.inr ⟨p, by omega, by omega, rfl, h1, h2⟩
      · rw [if_neg h2]
        rcases xs_fi_is pl ky key r (p + 1) with h | ⟨q, a, b, c⟩
        · exact Or.inl h
        · exact Or.inr ⟨q, by omega, by omega, c⟩
theorem xs_low_le (f : Nat → Int32) : ∀ (r i : Nat), i ≤ xs_low f r i ∧ xs_low f r i ≤ i + r
  | 0, i => ⟨Nat.le_refl _, Nat.le_refl _⟩
  | r + 1, i => by
    rw [xs_low]
    split
    · exact ⟨Nat.le_refl _, by omega⟩
    · have := xs_low_le f r (i + 1)
      omega
theorem xs_low_is (f : Nat → Int32) : ∀ (r i k : Nat), i ≤ k → k ≤ i + r → f k = 0 → f (xs_low f r i) = 0 ∧ xs_low f r i ≤ k ∧ ∀ j, i ≤ j → j < xs_low f r i → ¬ f j = 0
  | 0, i, k, h1, h2, h3 => by
    have : k = i := by omega
    subst this
    exact ⟨h3, Nat.le_refl _, fun j a b => by rw [xs_low] at b; omega⟩
  | r + 1, i, k, h1, h2, h3 => by
    rw [xs_low]
    by_cases h0 : f i = 0
    · rw [if_pos h0]
      exact ⟨h0, h1, fun j a b => by omega⟩
    · rw [if_neg h0]
      have hk : i ≠ k := fun e => h0 (by rw [e]; exact h3)
      obtain ⟨a, b, c⟩ := xs_low_is f r (i + 1) k (by omega) (by omega) h3
      refine ⟨a, b, fun j hj1 hj2 => ?_⟩
      by_cases hji : j = i
      · rw [hji]; exact h0
      · exact c j (by omega) hj2
section XR3
variable {n w : Nat} {σ τ : xf_T}
theorem xr_m1p : (-1 : Int32) + 1 = 0 := by decide
theorem xr_subadd (x : Int32) : x + 1 - 1 = x := by simp
theorem xr_core.pl0 (h : xr_core n w σ τ) {p : Nat} (hp : p < 8 * w) : (τ.2 1 p - 1 = σ.2 5 p) ∧ (τ.2 1 p - 1 < 0 ↔ σ.2 5 p = -1) ∧ (τ.2 1 p ≤ 0 ↔ σ.2 5 p = -1) ∧ (τ.2 1 p = 0 ↔ σ.2 5 p = -1) := by
  have hb := h.b31
  have e := h.2.2.2.1 p hp
  have e2 : τ.2 1 p - 1 = σ.2 5 p := by rw [e]; exact xr_subadd _
  rw [e2]
  refine ⟨rfl, ?_, ?_, ?_⟩
  · rcases h.2.2.2.2.2.1 p hp with g | ⟨i, g1, g2, -⟩
    · rw [g]; exact ⟨fun _ => rfl, fun _ => by decide⟩
    · rw [g2]; exact ⟨fun q => absurd q (nI_pos (by omega)), fun q => absurd q (xb_nIm1 (by omega))⟩
  · rw [e]
    rcases h.2.2.2.2.2.1 p hp with g | ⟨i, g1, g2, -⟩
    · rw [g]; exact ⟨fun _ => rfl, fun _ => by decide⟩
    · rw [g2, nI_1]; exact ⟨fun q => absurd q (nI_nle (by omega) (by omega)), fun q => absurd q (xb_nIm1 (by omega))⟩
  · rw [e]
    rcases h.2.2.2.2.2.1 p hp with g | ⟨i, g1, g2, -⟩
    · rw [g]; exact ⟨fun _ => rfl, fun _ => by decide⟩
    · rw [g2, nI_1]; exact ⟨fun q => absurd q (nI_ne0 (by omega) (by omega)), fun q => absurd q (xb_nIm1 (by omega))⟩
theorem xr_core.key0 (h : xr_core n w σ τ) {p : Nat} (hp : p < 8 * w) (ho : ¬ σ.2 5 p = -1) : σ.2 6 (σ.2 5 p).toNatClampNeg = τ.2 3 (τ.2 1 p - 1).toNatClampNeg := by
  have hb := h.b31
  rcases h.2.2.2.2.2.1 p hp with g | ⟨i, g1, g2, -⟩
  · exact absurd g ho
  · rw [(h.pl0 hp).1, g2, nI_clamp (by omega)]
    exact h.ar 6 3 (by decide) g1
theorem xr_core.fi (h : xr_core n w σ τ) (key : Int32) : ∀ (r p : Nat), p + r ≤ 8 * w → xs_fi (σ.2 5) (σ.2 6) key r p = xm_si (τ.2 1) (τ.2 3) key r p
  | 0, p, _ => rfl
  | r + 1, p, hp => by
    have ih := xr_core.fi h key r (p + 1) (by omega)
    have hp8 : p < 8 * w := by omega
    have e := h.pl0 hp8
    rw [xs_fi, xm_si, ih]
    by_cases ho : σ.2 5 p = -1
    · rw [if_pos ho, if_pos (e.2.1.mpr ho)]
    · rw [if_neg ho, if_neg (fun q => ho (e.2.1.mp q)), h.key0 hp8 ho]
theorem xr_core.nr (h : xr_core n w σ τ) (key : Int32) : ∀ (r p : Nat) (a : Int32), p + r ≤ 8 * w → xs_nr (σ.2 5) (σ.2 6) key r p a = xm_nr (τ.2 1) (τ.2 3) key r p a
  | 0, p, a, _ => rfl
  | r + 1, p, a, hp => by
    have hp8 : p < 8 * w := by omega
    have e := h.pl0 hp8
    have ih := fun a => xr_core.nr h key r (p + 1) a (by omega)
    rw [xs_nr, xm_nr, ih]
    by_cases ho : σ.2 5 p = -1
    · rw [if_pos ho, if_pos (e.2.2.1.mpr ho)]
    · rw [if_neg ho, if_neg (fun q => ho (e.2.2.1.mp q)), h.key0 hp8 ho]
theorem xr_bkb {w j : Nat} (hj : j < 8) : w * j + w ≤ 8 * w := by
  have : w * j ≤ w * 7 := Nat.mul_le_mul_left _ (by omega)
  omega
/-- found in a bucket: the class's answer is the reference's -/
theorem xr_core.findIn (h : xr_core n w σ τ) {b : Int32} {j : Nat} (hj : j < 8) (hb : b = nI j) (key : Int32) : xs_findIn w σ b key = xm_si (τ.2 1) (τ.2 3) key w (w * b.toNatClampNeg) := by
  unfold xs_findIn
  rw [hb, nI_clamp (by omega)]
  exact h.fi key w (w * j) (xr_bkb hj)
theorem xr_core.sea0 (h : xr_core n w σ τ) (key : Int32) : xm_sea w τ key 0 = xs_findIn w σ (xs_b1 key) key := by
  obtain ⟨j, hj, e⟩ := xs_b1_is key
  unfold xm_sea xm_bk
  rw [if_pos rfl]
  exact (h.findIn hj e key).symm
theorem xr_core.sea1 (h : xr_core n w σ τ) (key : Int32) : xm_sea w τ key 1 = xs_findIn w σ (xs_b2 key) key := by
  obtain ⟨j, hj, e⟩ := xs_b2_is key
  unfold xm_sea xm_bk
  rw [if_neg (by decide)]
  exact (h.findIn hj e key).symm
/-- what a look in a bucket says -/
theorem xr_core.in3 (h : xr_core n w σ τ) {b : Int32} {j : Nat} (hj : j < 8) (hb : b = nI j) (key : Int32) : (xs_findIn w σ b key = -1 ∨ ∃ q i, w * j ≤ q ∧ q < w * j + w ∧ q < 8 * w ∧ xs_findIn w σ b key = nI q ∧ i < n ∧ σ.2 5 q = nI i ∧ σ.2 11 i = 1) ∧ (xs_findIn w σ b key < 0 ↔ xs_findIn w σ b key = -1) := by
  have h31 := h.b31
  have h8 := xr_bkb (w := w) hj
  have := xs_fi_is (σ.2 5) (σ.2 6) key w (w * j)
  have e : xs_findIn w σ b key = xs_fi (σ.2 5) (σ.2 6) key w (w * j) := by unfold xs_findIn; rw [hb, nI_clamp (by omega)]
  rw [e]
  rcases this with g | ⟨q, g1, g2, g3, g4, -⟩
  · exact ⟨Or.inl g, by rw [g]; exact ⟨fun _ => rfl, fun _ => by decide⟩⟩
  · rcases h.2.2.2.2.2.1 q (by omega) with k | ⟨i, k1, k2, k3⟩
    · exact absurd k g4
    · exact ⟨Or.inr ⟨q, i, g1, g2, by omega, g3, k1, k2, k3⟩, by rw [g3]; exact ⟨fun z => absurd z (nI_pos (by omega)), fun z => absurd z (xb_nIm1 (by omega))⟩⟩
theorem xr_core.lkIn (h : xr_core n w σ τ) {b : Int32} {j : Nat} (hj : j < 8) (hb : b = nI j) {key c : Int32} (hc : xm_bk key c = b) : xr_core n w (xs_lkIn w σ b key) (xm_look w τ key c) := by
  have h31 := h.b31
  have h8 := xr_bkb (w := w) hj
  have e1 : xm_sea w τ key c = xs_findIn w σ b key := by unfold xm_sea; rw [hc]; exact (h.findIn hj hb key).symm
  have e2 : xm_cn w b (xs_findIn w σ b key) = xs_cn w b (xs_findIn w σ b key) := by
    unfold xm_cn xs_cn
    by_cases hf : xs_findIn w σ b key = -1
    · rw [if_pos hf, if_pos (((h.in3 hj hb key).2).mpr hf)]
    · rw [if_neg hf, if_neg (fun q => hf (((h.in3 hj hb key).2).mp q))]
  have e3 : w * b.toNatClampNeg + xs_cn w b (xs_findIn w σ b key) ≤ 8 * w := by
    rw [hb, nI_clamp (by omega)]
    unfold xs_cn
    rw [nI_clamp (by omega), ← hb]
    rcases (h.in3 hj hb key).1 with g | ⟨q, i, g1, g2, g3, g4, -⟩
    · rw [if_pos g]; omega
    · rw [g4, if_neg (xb_nIm1 (by omega)), nI_clamp (by omega)]; omega
  unfold xs_lkIn xm_look
  refine h.bI ?_ (by decide)
  rw [hc, e1, e2, h.sc 4 17 (by decide)]
  exact h.nr key _ _ _ e3
theorem xr_core.whe (h : xr_core n w σ τ) (key : Int32) : xm_whe w τ key = xs_find w σ key ∧ (xs_find w σ key < 0 ↔ xs_find w σ key = -1) ∧ (xs_find w σ key = -1 ∨ ∃ q i, q < 8 * w ∧ xs_find w σ key = nI q ∧ i < n ∧ σ.2 5 q = nI i ∧ σ.2 11 i = 1) := by
  obtain ⟨j1, hj1, e1⟩ := xs_b1_is key
  obtain ⟨j2, hj2, e2⟩ := xs_b2_is key
  have a1 := h.in3 hj1 e1 key
  have a2 := h.in3 hj2 e2 key
  unfold xm_whe xs_find
  rw [h.sea0, h.sea1]
  by_cases hc : xs_findIn w σ (xs_b1 key) key = -1
  · rw [if_pos hc, if_pos (a1.2.mpr hc)]
    refine ⟨rfl, a2.2, ?_⟩
    rcases a2.1 with g | ⟨q, i, -, -, g⟩
    · exact Or.inl g
    · exact Or.inr ⟨q, i, g⟩
  · rw [if_neg hc, if_neg (fun z => hc (a1.2.mp z))]
    refine ⟨rfl, a1.2, ?_⟩
    rcases a1.1 with g | ⟨q, i, -, -, g⟩
    · exact Or.inl g
    · exact Or.inr ⟨q, i, g⟩
theorem xr_core.fnd (h : xr_core n w σ τ) (key : Int32) : xm_fnd w τ key = xs_fnd w σ key ∧ (xs_fnd w σ key < 0 ↔ xs_fnd w σ key = -1) ∧ (xs_fnd w σ key = -1 ∨ ∃ i, i < n ∧ xs_fnd w σ key = nI i ∧ σ.2 11 i = 1) := by
  obtain ⟨e, a1, a2⟩ := h.whe key
  have h31 := h.b31
  unfold xm_fnd xs_fnd
  rw [e]
  by_cases hc : xs_find w σ key = -1
  · rw [if_pos hc, if_pos (a1.mpr hc)]
    exact ⟨rfl, ⟨fun _ => rfl, fun _ => by decide⟩, Or.inl rfl⟩
  · rw [if_neg hc, if_neg (fun z => hc (a1.mp z))]
    rcases a2 with g | ⟨q, i, g1, g2, g3, g4, g5⟩
    · exact absurd g hc
    · rw [g2, nI_clamp (by omega), (h.pl0 g1).1, g4]
      exact ⟨rfl, ⟨fun z => absurd z (nI_pos (by omega)), fun z => absurd z (xb_nIm1 (by omega))⟩, Or.inr ⟨i, g3, rfl, g5⟩⟩
theorem xr_core.lk (h : xr_core n w σ τ) (key : Int32) : xr_core n w (xs_lk w σ key) (xm_lb w τ key) := by
  obtain ⟨j1, hj1, e1⟩ := xs_b1_is key
  obtain ⟨j2, hj2, e2⟩ := xs_b2_is key
  have a1 := h.in3 hj1 e1 key
  have c1 := h.lkIn (c := 0) hj1 e1 (key := key) (by unfold xm_bk; rw [if_pos rfl])
  have c2 := c1.lkIn (c := 1) hj2 e2 (key := key) (by unfold xm_bk; rw [if_neg (by decide)])
  unfold xs_lk xm_lb
  rw [h.sea0]
  by_cases hc : xs_findIn w σ (xs_b1 key) key = -1
  · rw [if_pos hc, if_pos (a1.2.mpr hc)]
    exact c2
  · rw [if_neg hc, if_neg (fun z => hc (a1.2.mp z))]
    exact c1
/-- a place of both is set -/
theorem xr_core.place (h : xr_core n w σ τ) {s : Nat} {v v' : Int32} (hv : v = -1 ∨ ∃ i, i < n ∧ v = nI i ∧ σ.2 11 i = 1) (hv' : v' = v + 1) : xr_core n w (xf_A σ 5 s v) (xf_A τ 1 s v') := by
  subst hv'
  obtain ⟨h1, h2, h3, h4, h5, h6, h7, h8, h9, h10⟩ := h
  have nn : ∀ q ∈ xr_ar, q.1 ≠ 5 ∧ q.2 ≠ 1 := by decide +kernel
  refine ⟨h1, fun q hq x hx => ?_, h3, fun p hp => ?_, h5, fun p hp => ?_, h7, h8, h9, h10⟩
  · rw [xs_A2, xs_A2, if_neg (nn q hq).1, if_neg (nn q hq).2]; exact h2 q hq x hx
  · rw [xs_A2, xs_A2, if_pos rfl, if_pos rfl]
    by_cases hx2 : p = s
    · subst hx2
      rw [pk_us, pk_us]
    · rw [pk_un hx2, pk_un hx2]; exact h4 p hp
  · rw [xs_A2, if_pos rfl]
    by_cases hx2 : p = s
    · subst hx2
      rw [pk_us]; exact hv
    · rw [pk_un hx2]; exact h6 p hp
/-- a free item becomes used on both sides -/
theorem xr_core.use (h : xr_core n w σ τ) {i : Nat} (hi : i < n) (hu : σ.2 11 i = 0) : xr_core n w (xf_I (xf_A σ 11 i 1) 6 (σ.1 6 + 1)) (xf_A τ 2 i 1) := by
  obtain ⟨h1, h2, h3, h4, h5, h6, h7, h8, h9, h10⟩ := h
  have inj : ∀ q ∈ xr_ar, (q.1 = 11 ↔ q.2 = 2) := by decide +kernel
  have sc6 : ∀ q ∈ xr_sc, q.1 ≠ 6 := by decide +kernel
  refine ⟨fun q hq => ?_, fun q hq x hx => ?_, h3, h4, fun x a b => ?_, fun p hp => ?_, fun x hx => ⟨?_, (h7 x hx).2⟩, ?_, h9, h10⟩
  · rw [xs_I1, if_neg (sc6 q hq)]; exact h1 q hq
  · rw [xs_I2, xs_A2, xs_A2]
    by_cases hc : q.1 = 11
    · rw [if_pos hc, if_pos ((inj q hq).mp hc)]
      by_cases hx2 : x = i
      · subst hx2
        rw [pk_us, pk_us]
      · rw [pk_un hx2, pk_un hx2]
        exact h2 (11, 2) (by decide) x hx
    · rw [if_neg hc, if_neg (fun e => hc ((inj q hq).mpr e))]
      exact h2 q hq x hx
  · rw [xs_A2, if_pos rfl, pk_un (by omega)]; exact h5 x a b
  · rcases h6 p hp with g | ⟨x, x1, x2, x3⟩
    · exact Or.inl g
    · refine Or.inr ⟨x, x1, x2, ?_⟩
      rw [xs_I2, xs_A2, if_pos rfl]
      by_cases hx2 : x = i
      · subst hx2
        rw [pk_us]
      · rw [pk_un hx2]; exact x3
  · rw [xs_I2, xs_A2, if_pos rfl]
    by_cases hx2 : x = i
    · subst hx2
      rw [pk_us]; exact Or.inr rfl
    · rw [pk_un hx2]; exact (h7 x hx).1
  · rw [xs_I1, if_pos rfl, xs_I2, xs_A2, if_pos rfl, xr_mny, xr_cn_add (by decide) hi hu, nI_succ]
    rw [h8, xr_mny]
theorem xr_core.low (h : xr_core n w σ τ) (hf : ∃ i, i < n ∧ σ.2 11 i = 0) : xs_low (σ.2 11) (n - 1) 0 < n ∧ σ.2 11 (xs_low (σ.2 11) (n - 1) 0) = 0 ∧ xs_low (τ.2 2) 31 0 = xs_low (σ.2 11) (n - 1) 0 := by
  obtain ⟨i, hi, hu⟩ := hf
  have h10 := h.2.2.2.2.2.2.2.2.2
  obtain ⟨a1, a2, a3⟩ := xs_low_is (σ.2 11) (n - 1) 0 i (by omega) (by omega) hu
  have hu' : τ.2 2 i = 0 := by rw [← h.ar 11 2 (by decide) hi]; exact hu
  obtain ⟨b1, b2, b3⟩ := xs_low_is (τ.2 2) 31 0 i (by omega) (by omega) hu'
  refine ⟨by omega, a1, ?_⟩
  rcases Nat.lt_trichotomy (xs_low (τ.2 2) 31 0) (xs_low (σ.2 11) (n - 1) 0) with g | g | g
  · exact absurd (by rw [h.ar 11 2 (by decide) (by omega)]; exact b1) (a3 _ (by omega) g)
  · exact g
  · exact absurd (by rw [← h.ar 11 2 (by decide) (by omega)]; exact a1) (b3 _ (by omega) g)
end XR3
