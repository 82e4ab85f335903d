/-! The readers' steps, side by side. -/
theorem xr_tdiv (x : Int) : (0 ≤ x ∧ x.tdiv 2 = x / 2) ∨ (x < 0 ∧ x.tdiv 2 = -((-x) / 2)) := by
  by_cases h : 0 ≤ x
  · exact Or.inl ⟨h, Int.tdiv_eq_ediv_of_nonneg h⟩
  · refine Or.inr ⟨by omega, ?_⟩
    rw [← Int.tdiv_eq_ediv_of_nonneg (a := -x) (by omega), Int.neg_tdiv, Int.neg_neg]
theorem xr_par (v : Int32) : v &&& 1 = 0 ↔ xs_rem v 2 = 0 := by
  have ht := xr_tdiv v.toInt
  have hd : (v / 2).toInt = v.toInt.tdiv 2 := by
    rw [Int32.toInt_div]
    have h1 := Int32.le_toInt v
    have h2 := Int32.toInt_lt v
    rw [show (2 : Int32).toInt = 2 from rfl]
    apply Int.bmod_eq_of_le <;> omega
  have hm : (v / 2 * 2).toInt = v.toInt.tdiv 2 * 2 := by
    rw [Int32.toInt_mul, hd, show (2 : Int32).toInt = 2 from rfl]
    have h1 := Int32.le_toInt v
    have h2 := Int32.toInt_lt v
    apply Int.bmod_eq_of_le <;> omega
  have hr : (xs_rem v 2).toInt = v.toInt - v.toInt.tdiv 2 * 2 := by
    unfold xs_rem
    rw [Int32.toInt_sub, hm]
    have h1 := Int32.le_toInt v
    have h2 := Int32.toInt_lt v
    apply Int.bmod_eq_of_le <;> omega
  have ha : v &&& 1 = 0 ↔ v.toBitVec.toNat % 2 = 0 := by
    rw [← Int32.toBitVec_inj, BitVec.toNat_eq]
    show v.toBitVec.toNat &&& 1 = 0 ↔ _
    rw [Nat.and_one_is_mod]
  have hi : v.toInt = if 2 * v.toBitVec.toNat < 2 ^ 32 then (v.toBitVec.toNat : Int) else (v.toBitVec.toNat : Int) - ((2 ^ 32 : Nat) : Int) := BitVec.toInt_eq_toNat_cond v.toBitVec
  rw [ha, ← Int32.toInt_inj, hr, show (0 : Int32).toInt = 0 from rfl]
  have h32 : ((2 ^ 32 : Nat) : Int) = 4294967296 := by decide
  rw [h32] at hi
  split at hi <;> omega
section XRR
variable {n w q : Nat} {σ σ' τ τ' : xf_T}
theorem xr_core.oZ (h : xr_core n w σ τ) {k : Nat} {v : Int32} (hk : 24 ≤ k) : xr_core n w (xf_I σ k v) τ := by
  refine h.oI ?_
  have hh : ∀ q ∈ xr_sc, q.1 < 24 := by decide +kernel
  rw [Bool.and_eq_true, List.all_eq_true]
  refine ⟨fun x hx => ?_, ?_⟩
  · have := hh x hx
    simp only [bne_iff_ne, ne_eq]; omega
  · simp only [bne_iff_ne, ne_eq]; omega
theorem xr_core.oQ (h : xr_core n w σ τ) {j i : Nat} {v : Int32} (hj : 10 ≤ j) : xr_core n w σ (xf_A τ j i v) := by
  refine (h.oB (j := j) (f := upd (τ.2 j) i v) ?_ : xr_core n w σ (xs_sA τ j (upd (τ.2 j) i v)))
  have hh : ∀ q ∈ xr_ar, q.2 < 10 := by decide +kernel
  rw [Bool.and_eq_true, Bool.and_eq_true, List.all_eq_true]
  refine ⟨⟨fun x hx => ?_, ?_⟩, ?_⟩
  · have := hh x hx
    simp only [bne_iff_ne, ne_eq]; omega
  · simp only [bne_iff_ne, ne_eq]; omega
  · simp only [bne_iff_ne, ne_eq]; omega
def xr_sR (q : Nat) (σ σ' : xf_T) : Prop := (∀ k, k ≠ 2 → k ≠ 3 → k ≠ 4 → ¬ (24 + 8 * q ≤ k ∧ k < 24 + 8 * q + 8) → σ'.1 k = σ.1 k) ∧ ∀ k, k ≠ 10 → σ'.2 k = σ.2 k
def xr_tR (q : Nat) (τ τ' : xf_T) : Prop := (∀ k, k ≠ 15 → k ≠ 16 → k ≠ 17 → τ'.1 k = τ.1 k) ∧ (∀ j, j < 10 → j ≠ 7 → τ'.2 j = τ.2 j) ∧ ∀ j i, 10 ≤ j → i ≠ q → τ'.2 j i = τ.2 j i
theorem xr_sR.rf : xr_sR q σ σ := ⟨fun _ _ _ _ _ => rfl, fun _ _ => rfl⟩
theorem xr_sR.I (h : xr_sR q σ σ') {k : Nat} {v : Int32} (hk : k = 2 ∨ k = 3 ∨ k = 4 ∨ (24 + 8 * q ≤ k ∧ k < 24 + 8 * q + 8)) : xr_sR q σ (xf_I σ' k v) :=
  ⟨fun j a b c d => by rw [xs_I1, if_neg (by omega)]; exact h.1 j a b c d, h.2⟩
theorem xr_sR.B (h : xr_sR q σ σ') {i : Nat} {v : Int32} : xr_sR q σ (xf_A σ' 10 i v) := ⟨h.1, fun k hk => by rw [xs_A2, if_neg hk]; exact h.2 k hk⟩
theorem xr_sR.lkIn (h : xr_sR q σ σ') {b key : Int32} : xr_sR q σ (xs_lkIn w σ' b key) := h.I (by omega)
theorem xr_sR.lk (h : xr_sR q σ σ') {key : Int32} : xr_sR q σ (xs_lk w σ' key) := by
  unfold xs_lk
  split
  · exact h.lkIn.lkIn
  · exact h.lkIn
theorem xr_tR.rf : xr_tR q τ τ := ⟨fun _ _ _ _ => rfl, fun _ _ _ => rfl, fun _ _ _ _ => rfl⟩
theorem xr_tR.I (h : xr_tR q τ τ') {k : Nat} {v : Int32} (hk : k = 15 ∨ k = 16 ∨ k = 17) : xr_tR q τ (xf_I τ' k v) :=
  ⟨fun j a b c => by rw [xs_I1, if_neg (by omega)]; exact h.1 j a b c, h.2⟩
theorem xr_tR.B (h : xr_tR q τ τ') {i : Nat} {v : Int32} : xr_tR q τ (xf_A τ' 7 i v) :=
  ⟨h.1, fun j a b => by rw [xs_A2, if_neg b]; exact h.2.1 j a b, fun j i a b => by rw [xs_A2, if_neg (by omega)]; exact h.2.2 j i a b⟩
theorem xr_tR.A (h : xr_tR q τ τ') {j : Nat} {v : Int32} (hj : 10 ≤ j) : xr_tR q τ (xf_A τ' j q v) :=
  ⟨h.1, fun k a b => by rw [xs_A2, if_neg (by omega)]; exact h.2.1 k a b, fun k i a b => by
    rw [xs_A2]
    split
    · next e => rw [pk_un b, ← e]; exact h.2.2 k i a b
    · exact h.2.2 k i a b⟩
theorem xr_tR.look (h : xr_tR q τ τ') {key c : Int32} : xr_tR q τ (xm_look w τ' key c) := h.I (by omega)
theorem xr_tR.lb (h : xr_tR q τ τ') {key : Int32} : xr_tR q τ (xm_lb w τ' key) := by
  unfold xm_lb
  split
  · exact h.look.look
  · exact h.look
/-- a step of reader q: the writer and the other readers stay where they are -/
theorem xr_rst (h : xr_R n w σ τ) (hq : q < 3) (hs : xr_sR q σ σ') (ht : xr_tR q τ τ') (hc : xr_core n w σ' τ') (hd : xr_rd n σ' τ' q) : xr_R n w σ' τ' := by
  obtain ⟨-, hwr, hr⟩ := h
  refine ⟨hc, ?_, fun p hp => ?_⟩
  · have s9 := hs.1 9 (by omega) (by omega) (by omega) (by omega)
    have s11 := hs.1 11 (by omega) (by omega) (by omega) (by omega)
    have s16 := hs.1 16 (by omega) (by omega) (by omega) (by omega)
    have s17 := hs.1 17 (by omega) (by omega) (by omega) (by omega)
    have s18 := hs.1 18 (by omega) (by omega) (by omega) (by omega)
    have a5 := hs.2 5 (by omega)
    have a11 := hs.2 11 (by omega)
    have a14 := hs.2 14 (by omega)
    have t3 := ht.1 3 (by omega) (by omega) (by omega)
    have t4 := ht.1 4 (by omega) (by omega) (by omega)
    have t10 := ht.1 10 (by omega) (by omega) (by omega)
    have t12 := ht.1 12 (by omega) (by omega) (by omega)
    have b9 := ht.2.1 9 (by omega) (by omega)
    unfold xr_wr xr_kd xr_at at hwr ⊢
    rw [s9, s11, s16, s17, s18, a5, a11, a14, t3, t4, t10, t12, b9]
    exact hwr
  · by_cases e : p = q
    · rw [e]; exact hd
    · exact xr_rd_cg (fun k hk => hs.1 _ (by omega) (by omega) (by omega) (by omega)) (fun j hj => ht.2.2 j p hj e) (hr p hp)
theorem xr_sm : ∀ s, s ≤ 8 → ∀ t, t ≤ 8 → nI s = nI t → s = t := by
  intro s hs t ht e
  have := congrArg Int32.toNatClampNeg e
  rwa [nI_clamp (by omega), nI_clamp (by omega)] at this
theorem xr_rd_in (s : Nat) (hs : s ≤ 8) (e0 : σ.1 (24 + 8 * q) = nI s) (e1 : τ.2 10 q = nI s) (ek : σ.1 (24 + 8 * q + 3) = τ.2 11 q) (er : σ.1 (24 + 8 * q + 4) = τ.2 13 q)
    (h5 : s = 2 ∨ s = 3 ∨ s = 4 ∨ s = 5 → σ.1 (24 + 8 * q + 5) = τ.2 12 q) (h4 : s = 4 → ∃ i, i < n ∧ σ.1 (24 + 8 * q + 6) = nI i ∧ τ.2 14 q = nI (i + 1))
    (hd : s = 5 → (σ.1 (24 + 8 * q + 6) = -1 ∧ τ.2 14 q = 0) ∨ ∃ i, i < n ∧ σ.1 (24 + 8 * q + 6) = nI i ∧ τ.2 14 q = nI (i + 1) ∧ σ.1 (24 + 8 * q + 1) = τ.2 15 q ∧ σ.1 (24 + 8 * q + 2) = τ.2 16 q ∧ σ.1 (24 + 8 * q + 7) = τ.2 17 q)
    (h7 : s = 7 → σ.1 (24 + 8 * q + 1) = τ.2 15 q ∧ σ.1 (24 + 8 * q + 2) = τ.2 16 q) : xr_rd n σ τ q := by
  have hi : ∀ t, t ≤ 8 → σ.1 (24 + 8 * q) = nI t → s = t := fun t ht e => xr_sm s hs t ht (by rw [← e0, e])
  refine ⟨by rw [e0, e1], ek, er, ⟨s, hs, e0⟩, fun h => h5 ?_, fun h => h4 (hi 4 (by omega) h), fun h => hd (hi 5 (by omega) h), fun h => h7 (hi 7 (by omega) h)⟩
  rcases h with h | h | h | h
  · exact Or.inl (hi 2 (by omega) h)
  · exact Or.inr (Or.inl (hi 3 (by omega) h))
  · exact Or.inr (Or.inr (Or.inl (hi 4 (by omega) h)))
  · exact Or.inr (Or.inr (Or.inr (hi 5 (by omega) h)))
theorem xs_Ie {σ : xf_T} {k : Nat} {v : Int32} : (xf_I σ k v).1 k = v := by rw [xs_I1, if_pos rfl]
theorem xs_In {σ : xf_T} {k j : Nat} {v : Int32} (h : j ≠ k) : (xf_I σ k v).1 j = σ.1 j := by rw [xs_I1, if_neg h]
theorem xs_Ae {σ : xf_T} {j i : Nat} {v : Int32} : (xf_A σ j i v).2 j i = v := by rw [xs_A2, if_pos rfl, pk_us]
theorem xs_An {σ : xf_T} {j i k : Nat} {v : Int32} (h : k ≠ j) : (xf_A σ j i v).2 k = σ.2 k := by rw [xs_A2, if_neg h]
theorem xr_R.ver (h : xr_core n w σ τ) {a b : Int32} (e : a = b) : τ.2 8 (xs_str b).toNatClampNeg = xs_ver σ a := by
  subst e
  obtain ⟨j, hj, e⟩ := xs_str_is a
  unfold xs_ver
  rw [e, nI_clamp (by omega)]
  exact (h.2.2.1 j hj).symm
theorem xr_keep (h : xr_R n w σ τ) (hq : q < 3) (h1 : σ.1 (24 + 8 * q) = 1) : xr_R n w (xs_kpV (24 + 8 * q) σ) (xm_keep τ q (τ.2 8 (xs_str (τ.2 11 q)).toNatClampNeg)) := by
  obtain ⟨r1, r2, r3, -⟩ := h.2.2 q hq
  unfold xs_kpV xm_keep
  rw [xr_R.ver h.1 r2]
  generalize xs_ver σ (σ.1 (24 + 8 * q + 3)) = v
  by_cases hv : v &&& 1 = 0
  · rw [if_pos hv, if_pos ((xr_par v).mp hv)]
    refine xr_rst h hq ((xr_sR.rf.I (by omega)).I (by omega)) ((xr_tR.rf.A (by omega)).A (by omega)) (((h.1.oZ (by omega)).oZ (by omega)).oQ (by omega) |>.oQ (by omega)) ?_
    refine xr_rd_in 2 (by omega) xs_Ie xs_Ae ?_ ?_ (fun _ => ?_) (fun h => absurd h (by omega)) (fun h => absurd h (by omega)) (fun h => absurd h (by omega))
    · rw [xs_In (by omega), xs_In (by omega), xs_An (by omega), xs_An (by omega)]; exact r2
    · rw [xs_In (by omega), xs_In (by omega), xs_An (by omega), xs_An (by omega)]; exact r3
    · rw [xs_In (by omega), xs_Ie, xs_An (by omega), xs_Ae]
  · rw [if_neg hv, if_neg (fun e => hv ((xr_par v).mpr e))]
    have c := (h.1.oZ (k := 24 + 8 * q + 5) (v := v) (by omega)).bI (k := 3) (k' := 16) (v := σ.1 3 + 1) (v' := τ.1 16 + 1) (by rw [h.1.sc 3 16 (by decide)]) (by decide)
    refine xr_rst h hq ((xr_sR.rf.I (by omega)).I (by omega)) (xr_tR.rf.I (by omega)) c ?_
    refine xr_rd_in 1 (by omega) ?_ ?_ ?_ ?_ (fun h => absurd h (by omega)) (fun h => absurd h (by omega)) (fun h => absurd h (by omega)) (fun h => absurd h (by omega))
    · rw [xs_In (by omega), xs_In (by omega)]; exact h1
    · rw [xs_I2, ← r1]; exact h1
    · rw [xs_In (by omega), xs_In (by omega)]; exact r2
    · rw [xs_In (by omega), xs_In (by omega)]; exact r3
theorem xr_find (h : xr_R n w σ τ) (hq : q < 3) {b : Int32} {j s : Nat} (hj : j < 8) (hb : b = nI j) {S : Int32} (hbk : xm_bk (σ.1 (24 + 8 * q + 3)) (S - 2) = b) (hse : xm_sea w τ (σ.1 (24 + 8 * q + 3)) (S - 2) = xs_findIn w σ b (σ.1 (24 + 8 * q + 3)))
    (h1 : σ.1 (24 + 8 * q) = 2 ∨ σ.1 (24 + 8 * q) = 3) (hs : s = 3 ∨ s = 5) (hS : (if S = 2 then (3 : Int32) else 5) = nI s) : xr_R n w (xs_into w (24 + 8 * q) σ b (nI s)) (xm_find w τ q S) := by
  obtain ⟨r1, r2, r3, -, r5, -⟩ := h.2.2 q hq
  have r5' := r5 (by rcases h1 with e | e <;> rw [e] <;> decide)
  have hbb := h.1.b31
  have c0 := h.1.lkIn hj hb hbk
  obtain ⟨i3, i4⟩ := h.1.in3 hj hb (σ.1 (24 + 8 * q + 3))
  unfold xs_into xm_find
  rw [← r2, hse]
  have e1 : ∀ k, k ≠ 4 → (xs_lkIn w σ b (σ.1 (24 + 8 * q + 3))).1 k = σ.1 k := fun k hk => xs_In hk
  have e2 : (xm_look w τ (σ.1 (24 + 8 * q + 3)) (S - 2)).2 = τ.2 := rfl
  rcases i3 with g | ⟨p, i, -, -, p3, p4, p5, p6, -⟩
  · rw [if_pos g, if_pos (i4.mpr g), hS]
    refine xr_rst h hq ((xr_sR.rf.lkIn.I (by omega)).I (by omega)) ((xr_tR.rf.look.A (by omega)).A (by omega)) (((c0.oZ (by omega)).oZ (by omega)).oQ (by omega) |>.oQ (by omega)) ?_
    refine xr_rd_in s (by omega) xs_Ie xs_Ae ?_ ?_ (fun _ => ?_) (fun h => absurd h (by omega)) (fun _ => Or.inl ⟨?_, ?_⟩) (fun h => absurd h (by omega))
    · rw [xs_In (by omega), xs_In (by omega), xs_An (by omega), xs_An (by omega), e1 _ (by omega), e2]; exact r2
    · rw [xs_In (by omega), xs_In (by omega), xs_An (by omega), xs_An (by omega), e1 _ (by omega), e2]; exact r3
    · rw [xs_In (by omega), xs_In (by omega), xs_An (by omega), xs_An (by omega), e1 _ (by omega), e2]; exact r5'
    · rw [xs_In (by omega), xs_Ie]
    · rw [xs_An (by omega), xs_Ae]
  · have hne : ¬ xs_findIn w σ b (σ.1 (24 + 8 * q + 3)) = -1 := by rw [p4]; exact xb_nIm1 (by omega)
    rw [if_neg hne, if_neg (fun e => hne (i4.mp e)), p4, nI_clamp (by omega)]
    refine xr_rst h hq ((xr_sR.rf.lkIn.I (by omega)).I (by omega)) ((xr_tR.rf.look.A (by omega)).A (by omega)) (((c0.oZ (by omega)).oZ (by omega)).oQ (by omega) |>.oQ (by omega)) ?_
    refine xr_rd_in 4 (by omega) xs_Ie xs_Ae ?_ ?_ (fun _ => ?_) (fun _ => ⟨i, p5, ?_, ?_⟩) (fun h => absurd h (by omega)) (fun h => absurd h (by omega))
    · rw [xs_In (by omega), xs_In (by omega), xs_An (by omega), xs_An (by omega), e1 _ (by omega), e2]; exact r2
    · rw [xs_In (by omega), xs_In (by omega), xs_An (by omega), xs_An (by omega), e1 _ (by omega), e2]; exact r3
    · rw [xs_In (by omega), xs_In (by omega), xs_An (by omega), xs_An (by omega), e1 _ (by omega), e2]; exact r5'
    · rw [xs_In (by omega), xs_Ie]; exact p6
    · rw [xs_An (by omega), xs_Ae, h.1.2.2.2.1 p p3, p6, nI_1]
theorem xr_copy (h : xr_R n w σ τ) (hq : q < 3) (h1 : σ.1 (24 + 8 * q) = 4) : xr_R n w (xf_I (xs_copy (24 + 8 * q) σ) (24 + 8 * q) 5) (xm_copy τ q) := by
  obtain ⟨r1, r2, r3, -, r5, r6, -⟩ := h.2.2 q hq
  have r5' := r5 (by rw [h1]; decide)
  obtain ⟨i, i1, i2, i3⟩ := r6 h1
  have hbb := h.1.b31
  unfold xs_copy xm_copy
  rw [i2, i3, nI_pred, nI_clamp (by omega), ← h.1.ar 7 4 (by decide) i1, ← h.1.ar 8 5 (by decide) i1, ← h.1.ar 9 6 (by decide) i1]
  refine xr_rst h hq ((((xr_sR.rf.I (by omega)).I (by omega)).I (by omega)).I (by omega)) ((((xr_tR.rf.A (by omega)).A (by omega)).A (by omega)).A (by omega)) ((((((((h.1.oZ (by omega)).oZ (by omega)).oZ (by omega)).oZ (by omega)).oQ (by omega)).oQ (by omega)).oQ (by omega)).oQ (by omega)) ?_
  refine xr_rd_in 5 (by omega) xs_Ie xs_Ae ?_ ?_ (fun _ => ?_) (fun h => absurd h (by omega)) (fun _ => Or.inr ⟨i, i1, ?_, ?_, ?_, ?_, ?_⟩) (fun h => absurd h (by omega))
  · rw [xs_In (by omega), xs_In (by omega), xs_In (by omega), xs_In (by omega), xs_An (by omega), xs_An (by omega), xs_An (by omega), xs_An (by omega)]; exact r2
  · rw [xs_In (by omega), xs_In (by omega), xs_In (by omega), xs_In (by omega), xs_An (by omega), xs_An (by omega), xs_An (by omega), xs_An (by omega)]; exact r3
  · rw [xs_In (by omega), xs_In (by omega), xs_In (by omega), xs_In (by omega), xs_An (by omega), xs_An (by omega), xs_An (by omega), xs_An (by omega)]; exact r5'
  · rw [xs_In (by omega), xs_In (by omega), xs_In (by omega), xs_In (by omega)]; exact i2
  · rw [xs_An (by omega), xs_An (by omega), xs_An (by omega), xs_An (by omega)]; exact i3
  · rw [xs_In (by omega), xs_In (by omega), xs_In (by omega), xs_Ie, xs_An (by omega), xs_An (by omega), xs_An (by omega), xs_Ae]
  · rw [xs_In (by omega), xs_In (by omega), xs_Ie, xs_An (by omega), xs_An (by omega), xs_Ae]
  · rw [xs_In (by omega), xs_Ie, xs_An (by omega), xs_Ae]
/-- a reader ends: with nothing, with something -/
theorem xr_miss (h : xr_R n w σ τ) (hq : q < 3) : xr_R n w (xf_I σ (24 + 8 * q) 8) (xf_A τ 10 q 8) := by
  obtain ⟨r1, r2, r3, -⟩ := h.2.2 q hq
  refine xr_rst h hq (xr_sR.rf.I (by omega)) (xr_tR.rf.A (by omega)) ((h.1.oZ (by omega)).oQ (by omega)) ?_
  refine xr_rd_in 8 (by omega) xs_Ie xs_Ae ?_ ?_ (fun h => absurd h (by omega)) (fun h => absurd h (by omega)) (fun h => absurd h (by omega)) (fun h => absurd h (by omega))
  · rw [xs_In (by omega), xs_An (by omega)]; exact r2
  · rw [xs_In (by omega), xs_An (by omega)]; exact r3
theorem xr_chk (h : xr_R n w σ τ) (hq : q < 3) (h1 : σ.1 (24 + 8 * q) = 5) : xr_R n w (xs_chk (24 + 8 * q) σ) (xm_chk τ q) := by
  obtain ⟨r1, r2, r3, -, r5, -, r7, -⟩ := h.2.2 q hq
  have r5' := r5 (by rw [h1]; decide)
  have hbb := h.1.b31
  unfold xs_chk xm_chk
  rw [xr_R.ver h.1 r2, ← r5']
  by_cases hv : xs_ver σ (σ.1 (24 + 8 * q + 3)) = σ.1 (24 + 8 * q + 5)
  · rw [if_pos hv, if_pos hv]
    unfold xs_endR xs_hit xm_hit
    rcases r7 h1 with ⟨g1, g2⟩ | ⟨i, i1, i2, i3, i4, i5, i6⟩
    · rw [if_pos g1, g2, if_pos (show (0 : Int32) ≤ 0 by decide), if_pos rfl, if_pos rfl]
      exact xr_miss h hq
    · have hne : ¬ σ.1 (24 + 8 * q + 6) = -1 := by rw [i2]; exact xb_nIm1 (by omega)
      have hn2 : ¬ τ.2 14 q ≤ 0 := by
        rw [i3]
        intro e
        rw [show (0 : Int32) = nI 0 from rfl, nI_leI (by omega) (by omega)] at e
        omega
      rw [if_neg hne, if_neg hn2, ← i6, xr_over h.1]
      by_cases ho : xs_over σ (σ.1 (24 + 8 * q + 7)) = 0
      · rw [if_pos ho, if_neg (by decide), if_neg (by decide), i2, i3, nI_pred, nI_clamp (by omega)]
        refine xr_rst h hq (xr_sR.rf.B.I (by omega)) (xr_tR.rf.B.A (by omega)) (((h.1.bit (Or.inr rfl)).oZ (by omega)).oQ (by omega)) ?_
        refine xr_rd_in 7 (by omega) xs_Ie xs_Ae ?_ ?_ (fun h => absurd h (by omega)) (fun h => absurd h (by omega)) (fun h => absurd h (by omega)) (fun _ => ⟨?_, ?_⟩)
        · rw [xs_In (by omega), xs_A1, xs_An (by omega), xs_An (by omega)]; exact r2
        · rw [xs_In (by omega), xs_A1, xs_An (by omega), xs_An (by omega)]; exact r3
        · rw [xs_In (by omega), xs_A1, xs_An (by omega), xs_An (by omega)]; exact i4
        · rw [xs_In (by omega), xs_A1, xs_An (by omega), xs_An (by omega)]; exact i5
      · rw [if_neg ho, if_pos rfl, if_pos rfl]
        exact xr_miss h hq
  · rw [if_neg hv, if_neg hv, ← r3]
    have c := ((h.1.oZ (k := 24 + 8 * q + 4) (v := σ.1 (24 + 8 * q + 4) + 1) (by omega)).bI (k := 2) (k' := 15) (v := σ.1 2 + 1) (v' := τ.1 15 + 1) (by rw [h.1.sc 2 15 (by decide)]) (by decide))
    obtain ⟨s, s1, s2⟩ : ∃ s, (s = 1 ∨ s = 6) ∧ (if σ.1 (24 + 8 * q + 4) + 1 < 3 then (1 : Int32) else 6) = nI s := by
      split
      · exact ⟨1, Or.inl rfl, rfl⟩
      · exact ⟨6, Or.inr rfl, rfl⟩
    rw [s2]
    refine xr_rst h hq (((xr_sR.rf.I (by omega)).I (by omega)).I (by omega)) (((xr_tR.rf.I (by omega)).A (by omega)).A (by omega)) ((c.oZ (by omega)).oQ (by omega) |>.oQ (by omega)) ?_
    refine xr_rd_in s (by omega) xs_Ie xs_Ae ?_ ?_ (fun h => absurd h (by omega)) (fun h => absurd h (by omega)) (fun h => absurd h (by omega)) (fun h => absurd h (by omega))
    · rw [xs_In (by omega), xs_In (by omega), xs_In (by omega), xs_An (by omega), xs_An (by omega)]; exact r2
    · rw [xs_In (by omega), xs_In (by omega), xs_Ie, xs_An (by omega), xs_Ae]
end XRR
