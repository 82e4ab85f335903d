/-! Contracts of the class: looking the key up, evicting, moving. Laid by wip/gen/class5.py. -/
theorem xs_lk_2 (w : Nat) (σ : xf_T) (key : Int32) : (xs_lk w σ key).2 = σ.2 := by
  unfold xs_lk
  split <;> rfl
theorem xs_lk_1 (w : Nat) (σ : xf_T) (key : Int32) {k : Nat} (hk : k ≠ 4) : (xs_lk w σ key).1 k = σ.1 k := by
  unfold xs_lk xs_lkIn
  split
  · rw [xs_I1, if_neg hk, xs_I1, if_neg hk]
  · rw [xs_I1, if_neg hk]
theorem xs_over_lk (w : Nat) (σ : xf_T) (key e : Int32) : xs_over (xs_lk w σ key) e = xs_over σ e := by
  unfold xs_over
  rw [xs_lk_1 w σ key (by decide)]
theorem xs_okP.cg {n w : Nat} {σ σ' : xf_T} (h : xs_okP n w σ) (e : σ'.2 5 = σ.2 5) : xs_okP n w σ' := by
  unfold xs_okP
  rw [e]
  exact h
theorem xs_okP.find {n w : Nat} {σ : xf_T} (h : xs_okP n w σ) (key : Int32) : xs_find w σ key = -1 ∨ ∃ q, q < 8 * w ∧ xs_find w σ key = nI q ∧ ¬ σ.2 5 q = -1 := by
  have key' : ∀ b, (∃ j, j < 8 ∧ b = nI j) → xs_findIn w σ b key = -1 ∨ ∃ q, q < 8 * w ∧ xs_findIn w σ b key = nI q ∧ ¬ σ.2 5 q = -1 := by
    rintro b ⟨j, hj, rfl⟩
    have h8 := xr_bkb (w := w) hj
    unfold xs_findIn
    rw [nI_clamp (by omega)]
    rcases xs_fi_is (σ.2 5) (σ.2 6) key w (w * j) with g | ⟨q, g1, g2, g3, g4, -⟩
    · exact Or.inl g
    · exact Or.inr ⟨q, by omega, g3, g4⟩
  unfold xs_find
  split
  · exact key' _ (xs_b2_is key)
  · exact key' _ (xs_b1_is key)
theorem xs_okP.fnd {n w : Nat} {σ : xf_T} (h : xs_okP n w σ) (key : Int32) : xs_fnd w σ key = -1 ∨ vp_in (xs_fnd w σ key) n := by
  have hw := h.2
  unfold xs_fnd
  rcases h.find key with g | ⟨q, g1, g2, g3⟩
  · rw [if_pos g]; exact Or.inl rfl
  · rw [g2, if_neg (xb_nIm1 (by omega)), nI_clamp (by omega)]
    exact Or.inr (h.in g1 g3)
/-- the hand is a number of an item -/
def xs_okH (n : Nat) (σ : xf_T) : Prop := ∃ h, h < n ∧ σ.1 10 = nI h
theorem xs_okH.in {n : Nat} {σ : xf_T} (h : xs_okH n σ) (hn : n ≤ 32) : vp_in (σ.1 10) n := by
  obtain ⟨k, k1, k2⟩ := h
  exact xs_in k2 k1 (by omega)
theorem xs_okH.turn {n : Nat} {σ : xf_T} (h : xs_okH n σ) (h1 : 1 ≤ n) (hn : n ≤ 32) : xs_okH n (xs_turn n σ) := by
  obtain ⟨k, k1, k2⟩ := h
  unfold xs_okH xs_turn
  rw [xs_I1, if_pos rfl, k2, nI_1]
  by_cases hc : nI n ≤ nI (k + 1)
  · rw [if_pos hc]; exact ⟨0, by omega, rfl⟩
  · rw [if_neg hc]
    rw [nI_leI (by omega) (by omega)] at hc
    exact ⟨k + 1, by omega, rfl⟩
set_option maxRecDepth 100000 in
set_option maxHeartbeats 4000000 in
theorem xc_luk (P : xw_T) (σ τ : xf_T) (ho : xs_okP (xw_n P) (xw_w P) σ) : xf_F (xw_l P) xny_WR_lookUpKey xnc_WR_lookUpKey 3 none 5 105 (xw_W P) (xw_D P) (xw_ty P) [.ref (xw_a P 3)] (σ, τ) none (xs_luk (xw_n P) (xw_w P) σ, τ) := by
  refine xf_start (own := xnR_WR) [some (.ref (xw_a P 3)), none, none] rfl (by decide) (Nat.le_of_ble_eq_true rfl) rfl (xf_cat rfl) ?_
  intro X hX hE
  have hw := ho.2
  have hs2 := xs_lk_2 (xw_w P) σ (σ.1 12)
  have hov := xs_over_lk (xw_w P) σ (σ.1 12)
  have hol : xs_okP (xw_n P) (xw_w P) (xs_lk (xw_w P) σ (σ.1 12)) := ho.cg (by rw [hs2])
  have hfv := ho.fnd (σ.1 12)
  have hfd := ho.find (σ.1 12)
  have hu : xs_luk (xw_n P) (xw_w P) σ = if xs_fnd (xw_w P) σ (σ.1 12) = -1 then xs_whenN (xw_n P) (xs_lk (xw_w P) σ (σ.1 12)) else if xs_over σ (σ.2 9 (xs_fnd (xw_w P) σ (σ.1 12)).toNatClampNeg) = 0 then xs_whenF (xw_w P) (xs_lk (xw_w P) σ (σ.1 12)) (xs_fnd (xw_w P) σ (σ.1 12)) else xs_whenN (xw_n P) (xf_I (xs_remove (xw_w P) (xs_lk (xw_w P) σ (σ.1 12)) (xs_fnd (xw_w P) σ (σ.1 12))) 5 ((xs_remove (xw_w P) (xs_lk (xw_w P) σ (σ.1 12)) (xs_fnd (xw_w P) σ (σ.1 12))).1 5 + 1)) := rfl
  have hfe : (if xs_find (xw_w P) σ (σ.1 12) = -1 then -1 else σ.2 5 (xs_find (xw_w P) σ (σ.1 12)).toNatClampNeg) = xs_fnd (xw_w P) σ (σ.1 12) := rfl
  generalize hs : xs_lk (xw_w P) σ (σ.1 12) = σ' at hs2 hov hol hu
  generalize hF : xs_find (xw_w P) σ (σ.1 12) = F at hfd hfe
  generalize xs_fnd (xw_w P) σ (σ.1 12) = f0 at hu hfv hfe
  generalize hFin : xs_luk (xw_n P) (xw_w P) σ = FIN at hE hu
  have hFin := hFin
  have hFi : ¬ F = -1 → vp_in F (8 * (xw_w P)) := by
    intro h9
    rcases hfd with g | ⟨q, g1, g2, -⟩
    · exact absurd g h9
    · exact xs_in g2 g1 (by omega)
  have K1 : ∀ s, xs_whenN (xw_n P) s = FIN → xf_V X 78 [some (.ref (xw_a P 3)), some (.int F), some (.int (-1))] [] (s, τ) := by
    intro s hs9
    refine xf_iload_n hX 79 rfl 2 xnd_WR_lookUpKey_78 rfl rfl ?_
    refine xf_iconst hX 80 rfl (-1) xnd_WR_lookUpKey_79 (by decide) ?_
    refine xf_icmp_eq hX 83 rfl 91 xnd_WR_lookUpKey_80 (by decide) (fun _ => ?_) (fun h80 => absurd rfl h80)
    refine xf_aload_n hX 92 rfl 0 xnd_WR_lookUpKey_91 rfl rfl ?_
    refine xf_V0v hX 95 rfl (xc_whenN P _ _) xq_WR_chooseWhenNotFound xk_WR_103 xrX_WR rfl rfl xnd_WR_lookUpKey_92 ?_
    refine xf_vret hX hE xnd_WR_lookUpKey_95 ?_
    exact ⟨rfl, by rw [hs9]⟩
  have K2 : ∀ {f}, ¬ f = -1 → vp_in f (xw_n P) → xs_whenF (xw_w P) σ' f = FIN → xf_V X 78 [some (.ref (xw_a P 3)), some (.int F), some (.int f)] [] (σ', τ) := by
    intro f hne hf9 hs9
    refine xf_iload_n hX 79 rfl 2 xnd_WR_lookUpKey_78 rfl rfl ?_
    refine xf_iconst hX 80 rfl (-1) xnd_WR_lookUpKey_79 (by decide) ?_
    refine xf_icmp_eq hX 83 rfl 91 xnd_WR_lookUpKey_80 (by decide) (fun h80 => absurd h80 hne) (fun _ => ?_)
    refine xf_aload_n hX 84 rfl 0 xnd_WR_lookUpKey_83 rfl rfl ?_
    refine xf_iload_n hX 85 rfl 2 xnd_WR_lookUpKey_84 rfl rfl ?_
    refine xf_V1v hX 88 rfl (xc_whenF P _ _ _ hol hf9) xq_WR_chooseWhenFound xk_WR_100 xrX_WR rfl rfl xnd_WR_lookUpKey_85 ?_
    refine xf_goto hX 95 xnd_WR_lookUpKey_88 (by decide) ?_
    refine xf_vret hX hE xnd_WR_lookUpKey_95 ?_
    exact ⟨rfl, by rw [hs9]⟩
  have K : ∀ f, f = f0 → xf_V X 30 [some (.ref (xw_a P 3)), some (.int F), none] [.int f] (σ', τ) := by
    intro f hf0
    subst hf0
    refine xf_istore_n hX 31 rfl 2 xnd_WR_lookUpKey_30 rfl (by decide) ?_
    dsimp only [List.set]
    refine xf_iload_n hX 32 rfl 2 xnd_WR_lookUpKey_31 rfl rfl ?_
    refine xf_iconst hX 33 rfl (-1) xnd_WR_lookUpKey_32 (by decide) ?_
    refine xf_icmp_eq hX 36 rfl 78 xnd_WR_lookUpKey_33 (by decide) (fun h33 => ?_) (fun h33 => ?_)
    · subst h33
      exact K1 σ' (by rw [hu, if_pos rfl])
    · refine xf_aload_n hX 37 rfl 0 xnd_WR_lookUpKey_36 rfl rfl ?_
      refine xg_WR_store hX 40 rfl xk_WR_9 xnd_WR_lookUpKey_37 ?_
      refine xf_aload_n hX 41 rfl 0 xnd_WR_lookUpKey_40 rfl rfl ?_
      refine xg_WR_store hX 44 rfl xk_WR_9 xnd_WR_lookUpKey_41 ?_
      refine xg_ST_expiries hX 47 rfl xk_WR_84 xnd_WR_lookUpKey_44 ?_
      refine xf_iload_n hX 48 rfl 2 xnd_WR_lookUpKey_47 rfl rfl ?_
      refine xaX_iaload hX 49 rfl rfl (hfv.resolve_left h33) xnd_WR_lookUpKey_48 ?_
      rw [hs2]
      refine xf_V1i hX 52 rfl (xc_isOver P _ _ _) xq_ST_isOver xk_WR_87 xrX_ST rfl rfl xnd_WR_lookUpKey_49 ?_
      rw [hov]
      refine xf_if_eq hX 55 rfl 78 xnd_WR_lookUpKey_52 (by decide) (fun h52 => ?_) (fun h52 => ?_)
      · exact K2 h33 (hfv.resolve_left h33) (by rw [hu, if_neg h33, if_pos h52])
      · refine xf_aload_n hX 56 rfl 0 xnd_WR_lookUpKey_55 rfl rfl ?_
        refine xg_WR_store hX 59 rfl xk_WR_9 xnd_WR_lookUpKey_56 ?_
        refine xf_iload_n hX 60 rfl 2 xnd_WR_lookUpKey_59 rfl rfl ?_
        refine xf_V1v hX 63 rfl (xc_remove P _ _ _ hol (hfv.resolve_left h33)) xq_ST_remove xk_WR_91 xrX_ST rfl rfl xnd_WR_lookUpKey_60 ?_
        refine xf_aload_n hX 64 rfl 0 xnd_WR_lookUpKey_63 rfl rfl ?_
        refine xg_WR_tally hX 67 rfl xk_WR_15 xnd_WR_lookUpKey_64 ?_
        refine xf_dup hX 68 rfl xnd_WR_lookUpKey_67 rfl ?_
        refine xg_TA_expiredRemoved hX 71 rfl xk_WR_95 xnd_WR_lookUpKey_68 ?_
        refine xf_iconst hX 72 rfl (1) xnd_WR_lookUpKey_71 (by decide) ?_
        refine xf_iadd hX 73 rfl xnd_WR_lookUpKey_72 ?_
        refine xp_TA_expiredRemoved hX 76 rfl xk_WR_95 xnd_WR_lookUpKey_73 ?_
        refine xf_iconst hX 77 rfl (-1) xnd_WR_lookUpKey_76 (by decide) ?_
        refine xf_istore_n hX 78 rfl 2 xnd_WR_lookUpKey_77 rfl (by decide) ?_
        dsimp only [List.set]
        exact K1 _ (by rw [hu, if_neg h33, if_neg h52])
  refine xf_aload_n hX 1 rfl 0 xnd_WR_lookUpKey_0 rfl rfl ?_
  refine xg_WR_store hX 4 rfl xk_WR_9 xnd_WR_lookUpKey_1 ?_
  refine xf_aload_n hX 5 rfl 0 xnd_WR_lookUpKey_4 rfl rfl ?_
  refine xg_WR_key hX 8 rfl xk_WR_35 xnd_WR_lookUpKey_5 ?_
  refine xf_V1i hX 11 rfl (xc_lk P _ _ _ ho) xq_ST_lookUp xk_WR_74 xrX_ST rfl rfl xnd_WR_lookUpKey_8 ?_
  rw [hs, hF]
  refine xf_istore_n hX 12 rfl 1 xnd_WR_lookUpKey_11 rfl (by decide) ?_
  dsimp only [List.set]
  refine xf_iload_n hX 13 rfl 1 xnd_WR_lookUpKey_12 rfl rfl ?_
  refine xf_iconst hX 14 rfl (-1) xnd_WR_lookUpKey_13 (by decide) ?_
  refine xf_icmp_eq hX 17 rfl 29 xnd_WR_lookUpKey_14 (by decide) (fun h14 => ?_) (fun h14 => ?_)
  · refine xf_iconst hX 30 rfl (-1) xnd_WR_lookUpKey_29 (by decide) ?_
    exact K _ (by rw [← hfe, if_pos h14])
  · refine xf_aload_n hX 18 rfl 0 xnd_WR_lookUpKey_17 rfl rfl ?_
    refine xg_WR_store hX 21 rfl xk_WR_9 xnd_WR_lookUpKey_18 ?_
    refine xg_ST_places hX 24 rfl xk_WR_80 xnd_WR_lookUpKey_21 ?_
    refine xf_iload_n hX 25 rfl 1 xnd_WR_lookUpKey_24 rfl rfl ?_
    refine xaX_iaload hX 26 rfl rfl (hFi h14) xnd_WR_lookUpKey_25 ?_
    rw [hs2]
    refine xf_goto hX 30 xnd_WR_lookUpKey_26 (by decide) ?_
    exact K _ (by rw [← hfe, if_neg h14])

theorem xs_okP.evl {n w : Nat} : ∀ (r : Nat) (σ : xf_T), xs_okP n w σ → xs_okP n w (xs_evl n r σ)
  | 0, σ, h => h
  | r + 1, σ, h => by
    rw [xs_evl]
    split
    · exact h
    · exact xs_okP.evl r _ h
theorem xs_okH.evl {n : Nat} (h1 : 1 ≤ n) (h32 : n ≤ 32) : ∀ (r : Nat) (σ : xf_T), xs_okH n σ → xs_okH n (xs_evl n r σ)
  | 0, σ, h => h
  | r + 1, σ, h => by
    rw [xs_evl]
    split
    · exact h
    · exact xs_okH.evl h1 h32 r _ (xs_okH.turn (σ := xf_A σ 10 (σ.1 10).toNatClampNeg 0) h h1 h32)
set_option maxRecDepth 100000 in
set_option maxHeartbeats 4000000 in
theorem xc_evict (P : xw_T) (σ τ : xf_T) (ho : xs_okP (xw_n P) (xw_w P) σ) (hh : xs_okH (xw_n P) σ) : xf_F (xw_l P) xny_WR_evict xnc_WR_evict 2 none 4 84 (xw_W P) (xw_D P) (xw_ty P) [.ref (xw_a P 3)] (σ, τ) none (xs_evict (xw_n P) (xw_w P) σ, τ) := by
  refine xf_start (own := xnR_WR) [some (.ref (xw_a P 3)), none] rfl (by decide) (Nat.le_of_ble_eq_true rfl) rfl (xf_cat rfl) ?_
  intro X hX hE
  have hw := ho.2
  have hFin : xf_I (xf_I (xs_ev1 (xw_n P) (xw_w P) σ) 0 ((xs_ev1 (xw_n P) (xw_w P) σ).1 0 + 1)) 16 4 = xs_evict (xw_n P) (xw_w P) σ := rfl
  rw [← hFin] at hE
  have hEv : xs_ev1 (xw_n P) (xw_w P) σ = xs_turn (xw_n P) (xs_remove (xw_w P) (xs_evl (xw_n P) (xw_n P) σ) ((xs_evl (xw_n P) (xw_n P) σ).1 10)) := rfl
  rw [hEv] at hE hFin
  have hoE : xs_okP (xw_n P) (xw_w P) (xs_evl (xw_n P) (xw_n P) σ) := xs_okP.evl _ _ ho
  have hhE : xs_okH (xw_n P) (xs_evl (xw_n P) (xw_n P) σ) := xs_okH.evl (by omega) (by omega) _ _ hh
  generalize hE1 : xs_evl (xw_n P) (xw_n P) σ = E1 at hE hFin hoE hhE
  have K : ∀ x, xf_V X 51 [some (.ref (xw_a P 3)), x] [] (E1, τ) := by
    intro x
    refine xf_aload_n hX 52 rfl 0 xnd_WR_evict_51 rfl rfl ?_
    refine xg_WR_store hX 55 rfl xk_WR_9 xnd_WR_evict_52 ?_
    refine xf_aload_n hX 56 rfl 0 xnd_WR_evict_55 rfl rfl ?_
    refine xg_WR_hand hX 59 rfl xk_WR_133 xnd_WR_evict_56 ?_
    refine xf_V1v hX 62 rfl (xc_remove P _ _ _ hoE (hhE.in (by omega))) xq_ST_remove xk_WR_91 xrX_ST rfl rfl xnd_WR_evict_59 ?_
    refine xf_aload_n hX 63 rfl 0 xnd_WR_evict_62 rfl rfl ?_
    refine xf_V0v hX 66 rfl (xc_turn P _ _) xq_WR_turnHand xk_WR_136 xrX_WR rfl rfl xnd_WR_evict_63 ?_
    refine xf_aload_n hX 67 rfl 0 xnd_WR_evict_66 rfl rfl ?_
    refine xg_WR_tally hX 70 rfl xk_WR_15 xnd_WR_evict_67 ?_
    refine xf_dup hX 71 rfl xnd_WR_evict_70 rfl ?_
    refine xg_TA_evictions hX 74 rfl xk_WR_139 xnd_WR_evict_71 ?_
    refine xf_iconst hX 75 rfl (1) xnd_WR_evict_74 (by decide) ?_
    refine xf_iadd hX 76 rfl xnd_WR_evict_75 ?_
    refine xp_TA_evictions hX 79 rfl xk_WR_139 xnd_WR_evict_76 ?_
    refine xf_aload_n hX 80 rfl 0 xnd_WR_evict_79 rfl rfl ?_
    refine xf_iconst hX 81 rfl (4) xnd_WR_evict_80 (by decide) ?_
    refine xp_WR_next hX 84 rfl xk_WR_47 xnd_WR_evict_81 ?_
    refine xf_vret hX hE xnd_WR_evict_84 ?_
    exact ⟨rfl, rfl⟩
  have loop : ∀ r k s, r + k = (xw_n P) → xs_okP (xw_n P) (xw_w P) s → xs_okH (xw_n P) s → xs_evl (xw_n P) r s = E1 → xf_V X 2 [some (.ref (xw_a P 3)), some (.int (nI k))] [] (s, τ) := by
    intro r
    induction r with
    | zero =>
      intro k s hk hos hhs hR
      refine xf_iload_n hX 3 rfl 1 xnd_WR_evict_2 rfl rfl ?_
      refine xf_aload_n hX 4 rfl 0 xnd_WR_evict_3 rfl rfl ?_
      refine xg_WR_store hX 7 rfl xk_WR_9 xnd_WR_evict_4 ?_
      refine xg_ST_capacity hX 10 rfl xk_WR_126 xnd_WR_evict_7 ?_
      refine xf_icmp_ge hX 13 rfl 51 xnd_WR_evict_10 (by decide) (fun _ => ?_) (fun h10 => absurd (nI_le (by omega) (by omega)) h10)
      rw [show s = E1 from hR]
      exact K _
    | succ r ih =>
      intro k s hk hos hhs hR
      refine xf_iload_n hX 3 rfl 1 xnd_WR_evict_2 rfl rfl ?_
      refine xf_aload_n hX 4 rfl 0 xnd_WR_evict_3 rfl rfl ?_
      refine xg_WR_store hX 7 rfl xk_WR_9 xnd_WR_evict_4 ?_
      refine xg_ST_capacity hX 10 rfl xk_WR_126 xnd_WR_evict_7 ?_
      refine xf_icmp_ge hX 13 rfl 51 xnd_WR_evict_10 (by decide) (fun h10 => absurd h10 (nI_ge (by omega) (by omega))) (fun _ => ?_)
      refine xf_aload_n hX 14 rfl 0 xnd_WR_evict_13 rfl rfl ?_
      refine xg_WR_store hX 17 rfl xk_WR_9 xnd_WR_evict_14 ?_
      refine xg_ST_bits hX 20 rfl xk_WR_129 xnd_WR_evict_17 ?_
      refine xf_aload_n hX 21 rfl 0 xnd_WR_evict_20 rfl rfl ?_
      refine xg_WR_hand hX 24 rfl xk_WR_133 xnd_WR_evict_21 ?_
      refine xaX_baload hX 25 rfl rfl (hhs.in (by omega)) xnd_WR_evict_24 ?_
      refine xf_if_eq hX 28 rfl 51 xnd_WR_evict_25 (by decide) (fun h25 => ?_) (fun h25 => ?_)
      · rw [xs_evl, if_pos h25] at hR
        rw [hR]
        exact K _
      · refine xf_aload_n hX 29 rfl 0 xnd_WR_evict_28 rfl rfl ?_
        refine xg_WR_store hX 32 rfl xk_WR_9 xnd_WR_evict_29 ?_
        refine xg_ST_bits hX 35 rfl xk_WR_129 xnd_WR_evict_32 ?_
        refine xf_aload_n hX 36 rfl 0 xnd_WR_evict_35 rfl rfl ?_
        refine xg_WR_hand hX 39 rfl xk_WR_133 xnd_WR_evict_36 ?_
        refine xf_iconst hX 40 rfl (0) xnd_WR_evict_39 (by decide) ?_
        refine xaX_bastore hX 41 rfl rfl (hhs.in (by omega)) rfl xnd_WR_evict_40 ?_
        refine xf_aload_n hX 42 rfl 0 xnd_WR_evict_41 rfl rfl ?_
        refine xf_V0v hX 45 rfl (xc_turn P _ _) xq_WR_turnHand xk_WR_136 xrX_WR rfl rfl xnd_WR_evict_42 ?_
        refine xf_iinc hX 48 rfl (nI (k + 1)) xnd_WR_evict_45 rfl (by rw [nI_succ]; rfl) (by decide) ?_
        dsimp only [List.set]
        refine xf_goto hX 2 xnd_WR_evict_48 (by decide) ?_
        rw [xs_evl, if_neg h25] at hR
        exact ih (k + 1) _ (by omega) hos (xs_okH.turn hhs (by omega) (by omega)) hR
  refine xf_iconst hX 1 rfl (0) xnd_WR_evict_0 (by decide) ?_
  refine xf_istore_n hX 2 rfl 1 xnd_WR_evict_1 rfl (by decide) ?_
  dsimp only [List.set]
  exact loop (xw_n P) 0 σ (by omega) ho hh hE1

set_option maxRecDepth 100000 in
set_option maxHeartbeats 4000000 in
theorem xc_mvOn (P : xw_T) (σ τ : xf_T) (h1 : vp_in (σ.1 18) 5) (h2 : vp_in (σ.1 18 + 1) 5) (h3 : vp_in (σ.2 14 (σ.1 18).toNatClampNeg) (8 * (xw_w P))) (h4 : vp_in (σ.2 14 (σ.1 18 + 1).toNatClampNeg) (8 * (xw_w P))) (h5 : vp_in (xs_mi σ) (xw_n P)) : xf_F (xw_l P) xny_WR_moveOn xnc_WR_moveOn 2 none 3 62 (xw_W P) (xw_D P) (xw_ty P) [.ref (xw_a P 3)] (σ, τ) none (xs_mvOn σ, τ) := by
  refine xf_start (own := xnR_WR) [some (.ref (xw_a P 3)), none] rfl (by decide) (Nat.le_of_ble_eq_true rfl) rfl (xf_cat rfl) ?_
  intro X hX hE
  refine xf_aload_n hX 1 rfl 0 xnd_WR_moveOn_0 rfl rfl ?_
  refine xg_WR_store hX 4 rfl xk_WR_9 xnd_WR_moveOn_1 ?_
  refine xg_ST_places hX 7 rfl xk_WR_80 xnd_WR_moveOn_4 ?_
  refine xf_aload_n hX 8 rfl 0 xnd_WR_moveOn_7 rfl rfl ?_
  refine xg_WR_path hX 11 rfl xk_WR_24 xnd_WR_moveOn_8 ?_
  refine xg_PA_stops hX 14 rfl xk_WR_154 xnd_WR_moveOn_11 ?_
  refine xf_aload_n hX 15 rfl 0 xnd_WR_moveOn_14 rfl rfl ?_
  refine xg_WR_moving hX 18 rfl xk_WR_148 xnd_WR_moveOn_15 ?_
  refine xaX_iaload hX 19 rfl rfl h1 xnd_WR_moveOn_18 ?_
  refine xaX_iaload hX 20 rfl rfl h3 xnd_WR_moveOn_19 ?_
  refine xf_istore_n hX 21 rfl 1 xnd_WR_moveOn_20 rfl (by decide) ?_
  dsimp only [List.set]
  refine xf_aload_n hX 22 rfl 0 xnd_WR_moveOn_21 rfl rfl ?_
  refine xg_WR_store hX 25 rfl xk_WR_9 xnd_WR_moveOn_22 ?_
  refine xf_aload_n hX 26 rfl 0 xnd_WR_moveOn_25 rfl rfl ?_
  refine xg_WR_store hX 29 rfl xk_WR_9 xnd_WR_moveOn_26 ?_
  refine xg_ST_keys hX 32 rfl xk_WR_157 xnd_WR_moveOn_29 ?_
  refine xf_iload_n hX 33 rfl 1 xnd_WR_moveOn_32 rfl rfl ?_
  refine xaX_iaload hX 34 rfl rfl h5 xnd_WR_moveOn_33 ?_
  refine xf_iconst hX 35 rfl (1) xnd_WR_moveOn_34 (by decide) ?_
  refine xf_V2v hX 38 rfl (xc_grow P _ _ _ _) xq_ST_growVersion xk_WR_116 xrX_ST rfl rfl xnd_WR_moveOn_35 ?_
  refine xf_aload_n hX 39 rfl 0 xnd_WR_moveOn_38 rfl rfl ?_
  refine xg_WR_store hX 42 rfl xk_WR_9 xnd_WR_moveOn_39 ?_
  refine xg_ST_places hX 45 rfl xk_WR_80 xnd_WR_moveOn_42 ?_
  refine xf_aload_n hX 46 rfl 0 xnd_WR_moveOn_45 rfl rfl ?_
  refine xg_WR_path hX 49 rfl xk_WR_24 xnd_WR_moveOn_46 ?_
  refine xg_PA_stops hX 52 rfl xk_WR_154 xnd_WR_moveOn_49 ?_
  refine xf_aload_n hX 53 rfl 0 xnd_WR_moveOn_52 rfl rfl ?_
  refine xg_WR_moving hX 56 rfl xk_WR_148 xnd_WR_moveOn_53 ?_
  refine xf_iconst hX 57 rfl (1) xnd_WR_moveOn_56 (by decide) ?_
  refine xf_iadd hX 58 rfl xnd_WR_moveOn_57 ?_
  refine xaX_iaload hX 59 rfl rfl h2 xnd_WR_moveOn_58 ?_
  refine xf_iload_n hX 60 rfl 1 xnd_WR_moveOn_59 rfl rfl ?_
  refine xaX_iastore hX 61 rfl rfl h4 xnd_WR_moveOn_60 ?_
  refine xf_aload_n hX 62 rfl 0 xnd_WR_moveOn_61 rfl rfl ?_
  refine xf_bipush hX 64 rfl (6) xnd_WR_moveOn_62 (by decide) ?_
  refine xp_WR_next hX 67 rfl xk_WR_47 xnd_WR_moveOn_64 ?_
  refine xf_vret hX hE xnd_WR_moveOn_67 ?_
  exact ⟨rfl, rfl⟩

set_option maxRecDepth 100000 in
set_option maxHeartbeats 4000000 in
theorem xc_mvOff (P : xw_T) (σ τ : xf_T) (h1 : vp_in (σ.1 18) 5) (h3 : vp_in (σ.2 14 (σ.1 18).toNatClampNeg) (8 * (xw_w P))) (h5 : vp_in (xs_mi σ) (xw_n P)) : xf_F (xw_l P) xny_WR_moveOff xnc_WR_moveOff 2 none 3 62 (xw_W P) (xw_D P) (xw_ty P) [.ref (xw_a P 3)] (σ, τ) none (xs_mvOff σ, τ) := by
  refine xf_start (own := xnR_WR) [some (.ref (xw_a P 3)), none] rfl (by decide) (Nat.le_of_ble_eq_true rfl) rfl (xf_cat rfl) ?_
  intro X hX hE
  refine xf_aload_n hX 1 rfl 0 xnd_WR_moveOff_0 rfl rfl ?_
  refine xg_WR_store hX 4 rfl xk_WR_9 xnd_WR_moveOff_1 ?_
  refine xg_ST_places hX 7 rfl xk_WR_80 xnd_WR_moveOff_4 ?_
  refine xf_aload_n hX 8 rfl 0 xnd_WR_moveOff_7 rfl rfl ?_
  refine xg_WR_path hX 11 rfl xk_WR_24 xnd_WR_moveOff_8 ?_
  refine xg_PA_stops hX 14 rfl xk_WR_154 xnd_WR_moveOff_11 ?_
  refine xf_aload_n hX 15 rfl 0 xnd_WR_moveOff_14 rfl rfl ?_
  refine xg_WR_moving hX 18 rfl xk_WR_148 xnd_WR_moveOff_15 ?_
  refine xaX_iaload hX 19 rfl rfl h1 xnd_WR_moveOff_18 ?_
  refine xaX_iaload hX 20 rfl rfl h3 xnd_WR_moveOff_19 ?_
  refine xf_istore_n hX 21 rfl 1 xnd_WR_moveOff_20 rfl (by decide) ?_
  dsimp only [List.set]
  refine xf_aload_n hX 22 rfl 0 xnd_WR_moveOff_21 rfl rfl ?_
  refine xg_WR_store hX 25 rfl xk_WR_9 xnd_WR_moveOff_22 ?_
  refine xg_ST_places hX 28 rfl xk_WR_80 xnd_WR_moveOff_25 ?_
  refine xf_aload_n hX 29 rfl 0 xnd_WR_moveOff_28 rfl rfl ?_
  refine xg_WR_path hX 32 rfl xk_WR_24 xnd_WR_moveOff_29 ?_
  refine xg_PA_stops hX 35 rfl xk_WR_154 xnd_WR_moveOff_32 ?_
  refine xf_aload_n hX 36 rfl 0 xnd_WR_moveOff_35 rfl rfl ?_
  refine xg_WR_moving hX 39 rfl xk_WR_148 xnd_WR_moveOff_36 ?_
  refine xaX_iaload hX 40 rfl rfl h1 xnd_WR_moveOff_39 ?_
  refine xf_iconst hX 41 rfl (-1) xnd_WR_moveOff_40 (by decide) ?_
  refine xaX_iastore hX 42 rfl rfl h3 xnd_WR_moveOff_41 ?_
  refine xf_aload_n hX 43 rfl 0 xnd_WR_moveOff_42 rfl rfl ?_
  refine xg_WR_store hX 46 rfl xk_WR_9 xnd_WR_moveOff_43 ?_
  refine xf_aload_n hX 47 rfl 0 xnd_WR_moveOff_46 rfl rfl ?_
  refine xg_WR_store hX 50 rfl xk_WR_9 xnd_WR_moveOff_47 ?_
  refine xg_ST_keys hX 53 rfl xk_WR_157 xnd_WR_moveOff_50 ?_
  refine xf_iload_n hX 54 rfl 1 xnd_WR_moveOff_53 rfl rfl ?_
  refine xaX_iaload hX 55 rfl rfl h5 xnd_WR_moveOff_54 ?_
  refine xf_iconst hX 56 rfl (1) xnd_WR_moveOff_55 (by decide) ?_
  refine xf_V2v hX 59 rfl (xc_grow P _ _ _ _) xq_ST_growVersion xk_WR_116 xrX_ST rfl rfl xnd_WR_moveOff_56 ?_
  refine xf_aload_n hX 60 rfl 0 xnd_WR_moveOff_59 rfl rfl ?_
  refine xg_WR_tally hX 63 rfl xk_WR_15 xnd_WR_moveOff_60 ?_
  refine xf_dup hX 64 rfl xnd_WR_moveOff_63 rfl ?_
  refine xg_TA_moves hX 67 rfl xk_WR_160 xnd_WR_moveOff_64 ?_
  refine xf_iconst hX 68 rfl (1) xnd_WR_moveOff_67 (by decide) ?_
  refine xf_iadd hX 69 rfl xnd_WR_moveOff_68 ?_
  refine xp_TA_moves hX 72 rfl xk_WR_160 xnd_WR_moveOff_69 ?_
  refine xf_aload_n hX 73 rfl 0 xnd_WR_moveOff_72 rfl rfl ?_
  refine xf_V0v hX 76 rfl (xc_chM P _ _) xq_WR_chooseMove xk_WR_151 xrX_WR rfl rfl xnd_WR_moveOff_73 ?_
  refine xf_vret hX hE xnd_WR_moveOff_76 ?_
  exact ⟨rfl, rfl⟩

