/-! The class's numbers and the reference's, side by side. -/
/-- scalars that are the same on both sides -/
def xr_sc : List (Nat × Nat) := [(7, 0), (10, 1), (8, 2), (11, 5), (12, 6), (13, 7), (14, 8), (15, 9), (0, 13), (1, 14), (2, 15), (3, 16), (4, 17), (5, 18)]
/-- arrays that are the same on both sides: of n, or of 4 -/
def xr_ar : List (Nat × Nat) := [(6, 3), (7, 4), (8, 5), (9, 6), (10, 7), (11, 2)]
def xr_core (n w : Nat) (σ τ : xf_T) : Prop :=
  (∀ q ∈ xr_sc, σ.1 q.1 = τ.1 q.2) ∧ (∀ q ∈ xr_ar, ∀ i, i < n → σ.2 q.1 i = τ.2 q.2 i) ∧ (∀ i, i < 4 → σ.2 12 i = τ.2 8 i) ∧
  (∀ p, p < 8 * w → τ.2 1 p = σ.2 5 p + 1) ∧ (∀ i, n ≤ i → i < 32 → τ.2 2 i = 0) ∧
  (∀ p, p < 8 * w → σ.2 5 p = -1 ∨ ∃ i, i < n ∧ σ.2 5 p = nI i ∧ σ.2 11 i = 1) ∧
  (∀ i, i < n → (σ.2 11 i = 0 ∨ σ.2 11 i = 1) ∧ (σ.2 10 i = 0 ∨ σ.2 10 i = 1)) ∧
  σ.1 6 = xm_mny (σ.2 11) n ∧ (∃ h, h < n ∧ σ.1 10 = nI h) ∧ (1 ≤ n ∧ n ≤ 32 ∧ 1 ≤ w ∧ w ≤ 4)
section XRC
variable {n w : Nat} {σ τ : xf_T}
theorem xr_core.sc (h : xr_core n w σ τ) (k k' : Nat) (hk : (k, k') ∈ xr_sc) : σ.1 k = τ.1 k' := h.1 (k, k') hk
theorem xr_core.ar (h : xr_core n w σ τ) (k k' : Nat) (hk : (k, k') ∈ xr_ar) {i : Nat} (hi : i < n) : σ.2 k i = τ.2 k' i := h.2.1 (k, k') hk i hi
/-- a scalar that is the class's alone -/
theorem xr_core.oI (h : xr_core n w σ τ) {k : Nat} {v : Int32} (hk : (xr_sc.all (fun q => q.1 != k) && (k != 6)) = true) : xr_core n w (xf_I σ k v) τ := by
  rw [Bool.and_eq_true] at hk
  obtain ⟨h1, h2, h3, h4, h5, h6, h7, h8, h9, h10⟩ := h
  have key : ∀ q ∈ xr_sc, (xf_I σ k v).1 q.1 = σ.1 q.1 := by
    intro q hq
    have := List.all_eq_true.mp hk.1 q hq
    rw [xs_I1, if_neg (by simpa using this)]
  refine ⟨fun q hq => by rw [key q hq]; exact h1 q hq, h2, h3, h4, h5, h6, h7, ?_, ?_, h10⟩
  · rw [xs_I1, if_neg (by have := hk.2; simp at this; omega)]; exact h8
  · obtain ⟨x, x1, x2⟩ := h9
    exact ⟨x, x1, by rw [key (10, 1) (by decide)]; exact x2⟩
/-- a scalar that is the reference's alone -/
theorem xr_core.oJ (h : xr_core n w σ τ) {k : Nat} {v : Int32} (hk : (xr_sc.all (fun q => q.2 != k)) = true) : xr_core n w σ (xf_I τ k v) := by
  obtain ⟨h1, h2, h3, h4, h5, h6, h7, h8, h9, h10⟩ := h
  refine ⟨fun q hq => ?_, h2, h3, h4, h5, h6, h7, h8, h9, h10⟩
  have := List.all_eq_true.mp hk q hq
  rw [xs_I1, if_neg (by simpa using this)]
  exact h1 q hq
/-- an array that is the class's alone -/
theorem xr_core.oA (h : xr_core n w σ τ) {j : Nat} {f : Nat → Int32} (hk : (xr_ar.all (fun q => q.1 != j) && (j != 12) && (j != 5)) = true) : xr_core n w (xs_sA σ j f) τ := by
  rw [Bool.and_eq_true, Bool.and_eq_true] at hk
  obtain ⟨h1, h2, h3, h4, h5, h6, h7, h8, h9, h10⟩ := h
  have key : ∀ q ∈ xr_ar, (xs_sA σ j f).2 q.1 = σ.2 q.1 := by
    intro q hq
    have := List.all_eq_true.mp hk.1.1 q hq
    rw [xs_sA2, if_neg (by simpa using this)]
  have k12 : (xs_sA σ j f).2 12 = σ.2 12 := by rw [xs_sA2, if_neg (by have := hk.1.2; simp at this; omega)]
  have k5 : (xs_sA σ j f).2 5 = σ.2 5 := by rw [xs_sA2, if_neg (by have := hk.2; simp at this; omega)]
  have k11 := key (11, 2) (by decide)
  have k10 := key (10, 7) (by decide)
  dsimp only at k11 k10
  refine ⟨h1, fun q hq i hi => by rw [key q hq]; exact h2 q hq i hi, fun i hi => by rw [k12]; exact h3 i hi, fun p hp => by rw [k5]; exact h4 p hp, h5, fun p hp => by rw [k5, k11]; exact h6 p hp, fun i hi => by rw [k11, k10]; exact h7 i hi, by rw [k11]; exact h8, h9, h10⟩
/-- an array that is the reference's alone -/
theorem xr_core.oB (h : xr_core n w σ τ) {j : Nat} {f : Nat → Int32} (hk : (xr_ar.all (fun q => q.2 != j) && (j != 8) && (j != 1)) = true) : xr_core n w σ (xs_sA τ j f) := by
  rw [Bool.and_eq_true, Bool.and_eq_true] at hk
  obtain ⟨h1, h2, h3, h4, h5, h6, h7, h8, h9, h10⟩ := h
  have key : ∀ q ∈ xr_ar, (xs_sA τ j f).2 q.2 = τ.2 q.2 := by
    intro q hq
    have := List.all_eq_true.mp hk.1.1 q hq
    rw [xs_sA2, if_neg (by simpa using this)]
  have k12 : (xs_sA τ j f).2 8 = τ.2 8 := by rw [xs_sA2, if_neg (by have := hk.1.2; simp at this; omega)]
  have k5 : (xs_sA τ j f).2 1 = τ.2 1 := by rw [xs_sA2, if_neg (by have := hk.2; simp at this; omega)]
  have k11 := key (11, 2) (by decide)
  dsimp only at k11
  refine ⟨h1, fun q hq i hi => by rw [key q hq]; exact h2 q hq i hi, fun i hi => by rw [k12]; exact h3 i hi, fun p hp => by rw [k5]; exact h4 p hp, fun i a b => by rw [k11]; exact h5 i a b, h6, h7, h8, h9, h10⟩
/-- a scalar of both -/
theorem xr_core.bI (h : xr_core n w σ τ) {k k' : Nat} {v v' : Int32} (hv : v = v') (hk : ((k, k') ∈ xr_sc) ∧ k ≠ 10) : xr_core n w (xf_I σ k v) (xf_I τ k' v') := by
  subst hv
  obtain ⟨h1, h2, h3, h4, h5, h6, h7, h8, h9, h10⟩ := h
  have inj : ∀ q ∈ xr_sc, ∀ q' ∈ xr_sc, (q.1 = q'.1 ↔ q.2 = q'.2) := by decide +kernel
  have n6 : ∀ q ∈ xr_sc, q.1 ≠ 6 := by decide +kernel
  refine ⟨fun q hq => ?_, h2, h3, h4, h5, h6, h7, ?_, ?_, h10⟩
  · rw [xs_I1, xs_I1]
    by_cases hc : q.1 = k
    · rw [if_pos hc, if_pos ((inj q hq (k, k') hk.1).mp hc)]
    · rw [if_neg hc, if_neg (fun e => hc ((inj q hq (k, k') hk.1).mpr e))]
      exact h1 q hq
  · rw [xs_I1, if_neg (fun e => n6 (k, k') hk.1 e.symm)]; exact h8
  · rw [xs_I1, if_neg (fun e => hk.2 e.symm)]; exact h9
/-- the hand -/
theorem xr_core.hand (h : xr_core n w σ τ) {a : Nat} (ha : a < n) : xr_core n w (xf_I σ 10 (nI a)) (xf_I τ 1 (nI a)) := by
  obtain ⟨h1, h2, h3, h4, h5, h6, h7, h8, h9, h10⟩ := h
  have inj : ∀ q ∈ xr_sc, (q.1 = 10 ↔ q.2 = 1) := by decide +kernel
  refine ⟨fun q hq => ?_, h2, h3, h4, h5, h6, h7, h8, ⟨a, ha, by rw [xs_I1, if_pos rfl]⟩, h10⟩
  rw [xs_I1, xs_I1]
  by_cases hc : q.1 = 10
  · rw [if_pos hc, if_pos ((inj q hq).mp hc)]
  · rw [if_neg hc, if_neg (fun e => hc ((inj q hq).mpr e))]
    exact h1 q hq
/-- an element of an array of both (not of the flags) -/
theorem xr_core.bA (h : xr_core n w σ τ) {j j' i : Nat} {v v' : Int32} (hv : v = v') (hk : ((j, j') ∈ xr_ar) ∧ j ≠ 10 ∧ j ≠ 11) : xr_core n w (xf_A σ j i v) (xf_A τ j' i v') := by
  subst hv
  obtain ⟨h1, h2, h3, h4, h5, h6, h7, h8, h9, h10⟩ := h
  have inj : ∀ q ∈ xr_ar, ∀ q' ∈ xr_ar, (q.1 = q'.1 ↔ q.2 = q'.2) := by decide +kernel
  have nn : ∀ q ∈ xr_ar, q.1 ≠ 5 ∧ q.1 ≠ 12 ∧ q.2 ≠ 1 ∧ q.2 ≠ 8 := by decide +kernel
  have m := nn (j, j') hk.1
  dsimp only at m
  have j2 : j' ≠ 2 := fun e => hk.2.2 ((inj (j, j') hk.1 (11, 2) (by decide)).mpr e)
  refine ⟨h1, fun q hq x hx => ?_, fun x hx => ?_, fun p hp => ?_, fun x a b => ?_, fun p hp => ?_, fun x hx => ?_, ?_, h9, h10⟩
  · rw [xs_A2, xs_A2]
    by_cases hc : q.1 = j
    · rw [if_pos hc, if_pos ((inj q hq (j, j') hk.1).mp hc)]
      by_cases hx2 : x = i
      · subst hx2
        rw [pk_us, pk_us]
      · rw [pk_un hx2, pk_un hx2]
        exact h2 (j, j') hk.1 x hx
    · rw [if_neg hc, if_neg (fun e => hc ((inj q hq (j, j') hk.1).mpr e))]
      exact h2 q hq x hx
  · rw [xs_A2, xs_A2, if_neg (Ne.symm m.2.1), if_neg (Ne.symm m.2.2.2)]; exact h3 x hx
  · rw [xs_A2, xs_A2, if_neg (Ne.symm m.1), if_neg (Ne.symm m.2.2.1)]; exact h4 p hp
  · rw [xs_A2, if_neg (Ne.symm j2)]; exact h5 x a b
  · rw [xs_A2, xs_A2, if_neg (Ne.symm m.1), if_neg (Ne.symm hk.2.2)]; exact h6 p hp
  · rw [xs_A2, xs_A2, if_neg (Ne.symm hk.2.2), if_neg (Ne.symm hk.2.1)]; exact h7 x hx
  · rw [xs_A2, if_neg (Ne.symm hk.2.2)]; exact h8
/-- a bit of both -/
theorem xr_core.bit (h : xr_core n w σ τ) {i : Nat} {v : Int32} (hv : v = 0 ∨ v = 1) : xr_core n w (xf_A σ 10 i v) (xf_A τ 7 i v) := by
  obtain ⟨h1, h2, h3, h4, h5, h6, h7, h8, h9, h10⟩ := h
  have inj : ∀ q ∈ xr_ar, (q.1 = 10 ↔ q.2 = 7) := by decide +kernel
  refine ⟨h1, fun q hq x hx => ?_, h3, h4, h5, h6, fun x hx => ⟨(h7 x hx).1, ?_⟩, h8, h9, h10⟩
  · rw [xs_A2, xs_A2]
    by_cases hc : q.1 = 10
    · rw [if_pos hc, if_pos ((inj q hq).mp hc)]
      by_cases hx2 : x = i
      · subst hx2
        rw [pk_us, pk_us]
      · rw [pk_un hx2, pk_un hx2]
        exact h2 (10, 7) (by decide) x hx
    · rw [if_neg hc, if_neg (fun e => hc ((inj q hq).mpr e))]
      exact h2 q hq x hx
  · rw [xs_A2, if_pos rfl]
    by_cases hx2 : x = i
    · subst hx2
      rw [pk_us]; exact hv
    · rw [pk_un hx2]; exact (h7 x hx).2
theorem xr_core.grow (h : xr_core n w σ τ) (k d : Int32) : xr_core n w (xs_grow σ k d) (xm_grow τ k d) := by
  obtain ⟨j, hj, e⟩ := xs_str_is k
  have ecl : (xs_str k).toNatClampNeg = j := by rw [e]; exact nI_clamp (by omega)
  obtain ⟨h1, h2, h3, h4, h5, h6, h7, h8, h9, h10⟩ := h
  have nn : ∀ q ∈ xr_ar, q.1 ≠ 12 ∧ q.2 ≠ 8 := by decide +kernel
  unfold xs_grow xm_grow
  rw [ecl]
  refine ⟨h1, fun q hq x hx => ?_, fun x hx => ?_, h4, h5, h6, h7, h8, h9, h10⟩
  · rw [xs_A2, xs_A2, if_neg (nn q hq).1, if_neg (nn q hq).2]; exact h2 q hq x hx
  · rw [xs_A2, xs_A2, if_pos rfl, if_pos rfl]
    by_cases hx2 : x = j
    · subst hx2
      rw [pk_us, pk_us, h3 x hx]
    · rw [pk_un hx2, pk_un hx2]; exact h3 x hx
end XRC
