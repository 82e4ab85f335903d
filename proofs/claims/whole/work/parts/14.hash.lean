/-! Facts of the numbers: hashes, small indices, what a set field or element reads. -/
theorem xs_of32 (x : Int32) : x = nI x.toBitVec.toNat ∧ x.toBitVec.toNat < 2 ^ 32 := by
  refine ⟨?_, x.toBitVec.isLt⟩
  apply Int32.toBitVec_inj.mp
  show x.toBitVec = BitVec.ofNat 32 x.toBitVec.toNat
  simp
theorem xs_nxor (a b : Nat) : nI a ^^^ nI b = nI (a ^^^ b) := by
  apply Int32.toBitVec_inj.1
  show BitVec.ofNat 32 a ^^^ BitVec.ofNat 32 b = BitVec.ofNat 32 (a ^^^ b)
  apply BitVec.eq_of_getLsbD_eq
  intro i hi
  simp [hi]
theorem xs_str_is (k : Int32) : ∃ j, j < 4 ∧ xs_str k = nI j := pk_andE _ 2 (by decide)
theorem xs_b1_is (k : Int32) : ∃ j, j < 8 ∧ xs_b1 k = nI j := pk_andE _ 3 (by decide)
theorem xs_tag_is (k : Int32) : ∃ j, j < 16 ∧ xs_tag k = nI j := by
  obtain ⟨h1, h2⟩ := xs_of32 (xs_mix k)
  refine ⟨(xs_mix k).toBitVec.toNat / 2 ^ 28, by omega, ?_⟩
  unfold xs_tag xs_ush
  generalize hn : (xs_mix k).toBitVec.toNat = n at h1 h2 ⊢
  rw [h1]
  exact pk_ushrN h2 28 28 (by decide)
theorem xs_ob_is {j : Nat} (hj : j < 8) (k : Int32) : ∃ i, i < 8 ∧ xs_ob (nI j) k = nI i := by
  obtain ⟨t, ht, e⟩ := xs_tag_is k
  have h7 : xs_rem (nI t) 7 = nI (t % 7) := pk_rem (a := t) (d := 7) (by omega) (by omega) (by omega)
  refine ⟨j ^^^ (1 + t % 7), ?_, ?_⟩
  · exact Nat.xor_lt_two_pow (n := 3) (by omega) (by omega)
  · unfold xs_ob
    rw [e, h7, show (1 : Int32) = nI 1 from rfl, nI_add, xs_nxor]
theorem xs_b2_is (k : Int32) : ∃ j, j < 8 ∧ xs_b2 k = nI j := by
  obtain ⟨j, hj, e⟩ := xs_b1_is k
  unfold xs_b2
  rw [e]
  exact xs_ob_is hj k
theorem xs_in {x : Int32} {j N : Nat} (e : x = nI j) (h : j < N) (hN : N < 2 ^ 31) : vp_in x N := by rw [e]; exact vp_in_nI h hN
theorem xs_str_in (k : Int32) : vp_in (xs_str k) 4 := by
  obtain ⟨j, hj, e⟩ := xs_str_is k
  exact xs_in e hj (by omega)
theorem xs_isW_z (x a b : Int32) : narrow .boolean (.int (xs_isW x a b)) = .int (xs_isW x a b) := by
  unfold xs_isW
  split
  · rfl
  · split <;> rfl
theorem xs_I1 {σ : xf_T} {k j : Nat} {v : Int32} : (xf_I σ k v).1 j = if j = k then v else σ.1 j := rfl
theorem xs_I2 {σ : xf_T} {k : Nat} {v : Int32} : (xf_I σ k v).2 = σ.2 := rfl
theorem xs_A1 {σ : xf_T} {j i : Nat} {v : Int32} : (xf_A σ j i v).1 = σ.1 := rfl
theorem xs_A2 {σ : xf_T} {j i k : Nat} {v : Int32} : (xf_A σ j i v).2 k = if k = j then upd (σ.2 j) i v else σ.2 k := rfl
theorem xs_sA1 {σ : xf_T} {j : Nat} {f : Nat → Int32} : (xs_sA σ j f).1 = σ.1 := rfl
theorem xs_sA2 {σ : xf_T} {j k : Nat} {f : Nat → Int32} : (xs_sA σ j f).2 k = if k = j then f else σ.2 k := rfl
theorem xs_ext {σ σ' : xf_T} (h1 : ∀ k, σ.1 k = σ'.1 k) (h2 : ∀ j i, σ.2 j i = σ'.2 j i) : σ = σ' := by
  obtain ⟨a, b⟩ := σ
  obtain ⟨a', b'⟩ := σ'
  have e1 : a = a' := funext h1
  have e2 : b = b' := funext (fun j => funext (h2 j))
  rw [e1, e2]
theorem xs_I_id (σ : xf_T) (k : Nat) : xf_I σ k (σ.1 k) = σ := by
  refine xs_ext (fun j => ?_) (fun j i => rfl)
  rw [xs_I1]
  split
  · next h => rw [h]
  · rfl
theorem xs_II (σ : xf_T) (k : Nat) (a b : Int32) : xf_I (xf_I σ k a) k b = xf_I σ k b := by
  refine xs_ext (fun j => ?_) (fun j i => rfl)
  rw [xs_I1, xs_I1, xs_I1]
  split <;> rfl
theorem xs_sA_id (σ : xf_T) (j : Nat) : xs_sA σ j (σ.2 j) = σ := by
  refine xs_ext (fun k => rfl) (fun k i => ?_)
  rw [xs_sA2]
  split
  · next h => rw [h]
  · rfl
theorem xs_sAA (σ : xf_T) (j : Nat) (f g : Nat → Int32) : xs_sA (xs_sA σ j f) j g = xs_sA σ j g := by
  refine xs_ext (fun k => rfl) (fun k i => ?_)
  rw [xs_sA2, xs_sA2, xs_sA2]
  split <;> rfl
theorem xs_A_sA (σ : xf_T) (j : Nat) (f : Nat → Int32) (i : Nat) (v : Int32) : xf_A (xs_sA σ j f) j i v = xs_sA σ j (upd f i v) := by
  refine xs_ext (fun k => rfl) (fun k q => ?_)
  rw [xs_A2, xs_sA2, xs_sA2, xs_sA2, if_pos rfl]
  split <;> rfl
