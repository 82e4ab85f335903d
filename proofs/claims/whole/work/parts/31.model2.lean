/-! Contracts of the reference: the steps of a write but the search. Laid by wip/gen/model2.py. -/
theorem xm_lb_2 (w : Nat) (τ : xf_T) (key : Int32) : (xm_lb w τ key).2 = τ.2 := by
  unfold xm_lb
  split <;> rfl
theorem xm_lb_1 (w : Nat) (τ : xf_T) (key : Int32) {k : Nat} (hk : k ≠ 17) : (xm_lb w τ key).1 k = τ.1 k := by
  unfold xm_lb xm_look
  split
  · rw [xs_I1, if_neg hk, xs_I1, if_neg hk]
  · rw [xs_I1, if_neg hk]
theorem xm_okP.whe {n w : Nat} {τ : xf_T} (h : xm_okP n w τ) (key : Int32) : xm_whe w τ key = -1 ∨ ∃ q, q < 8 * w ∧ xm_whe w τ key = nI q := by
  have key' : ∀ c, xm_sea w τ key c = -1 ∨ ∃ q, q < 8 * w ∧ xm_sea w τ key c = nI q := by
    intro c
    obtain ⟨j, hj, e⟩ := xm_bk_is key c
    have h8 := xr_bkb (w := w) hj
    unfold xm_sea
    rw [e, nI_clamp (by omega)]
    rcases xm_si_is (τ.2 1) (τ.2 3) key w (w * j) with g | ⟨q, g1, g2, g3⟩
    · exact Or.inl g
    · exact Or.inr ⟨q, by omega, g3⟩
  unfold xm_whe
  split
  · exact key' 1
  · exact key' 0
theorem xm_okP.fnd {n w : Nat} {τ : xf_T} (h : xm_okP n w τ) (key : Int32) : xm_fnd w τ key < 0 ∨ vp_in (xm_fnd w τ key) 32 := by
  have hw := h.2
  unfold xm_fnd
  rcases h.whe key with g | ⟨q, g1, g2⟩
  · rw [g, if_pos (by decide)]; exact Or.inl (by decide)
  · rw [g2, if_neg (nI_pos (by omega)), nI_clamp (by omega)]
    by_cases hc : τ.2 1 q = 0
    · exact Or.inl ((h.ne g1).1.mpr hc)
    · exact Or.inr (h.in g1 hc)
def xm_wOK (τ : xf_T) (kind life : Int32) : Int32 := if 0 < τ.1 3 then 0 else if kind < 0 then 0 else if 4 < kind then 0 else if life < 0 then 0 else if life ≤ 1000 then 1 else 0
def xm_write (τ : xf_T) (kind key nv life kt : Int32) : xf_T := if xm_wOK τ kind life = 0 then τ else xf_I (xf_I (xf_I (xf_I (xf_I (xf_I τ 5 kind) 6 key) 7 nv) 8 life) 9 kt) 3 1
def xm_out (τ : xf_T) : Int32 := if τ.1 3 ≤ 0 then τ.1 4 else 0
def xm_okH (n : Nat) (τ : xf_T) : Prop := ∃ h, h < n ∧ τ.1 1 = nI h
theorem xm_okH.in {n : Nat} {τ : xf_T} (h : xm_okH n τ) (hn : n ≤ 32) : vp_in (τ.1 1) 32 := by
  obtain ⟨k, k1, k2⟩ := h
  exact xs_in k2 (by omega) (by omega)
theorem xm_okH.turn {n : Nat} {τ : xf_T} (h : xm_okH n τ) (h1 : 1 ≤ n) (hn : n ≤ 32) : xm_okH n (xm_turn n τ) := by
  obtain ⟨k, k1, k2⟩ := h
  refine ⟨(k + 1) % n, Nat.mod_lt _ (by omega), ?_⟩
  unfold xm_turn
  rw [xs_I1, if_pos rfl, k2, nI_1]
  exact pk_rem (by omega) (by omega) (by omega)
theorem xm_okP.evl {n w : Nat} : ∀ (r : Nat) (τ : xf_T), xm_okP n w τ → xm_okP n w (xm_evl n r τ)
  | 0, τ, h => h
  | r + 1, τ, h => by
    rw [xm_evl]
    split
    · exact h
    · exact xm_okP.evl r _ h
theorem xm_okH.evl {n : Nat} (h1 : 1 ≤ n) (h32 : n ≤ 32) : ∀ (r : Nat) (τ : xf_T), xm_okH n τ → xm_okH n (xm_evl n r τ)
  | 0, τ, h => h
  | r + 1, τ, h => by
    rw [xm_evl]
    split
    · exact h
    · exact xm_okH.evl h1 h32 r _ (xm_okH.turn (τ := xf_A τ 7 (τ.1 1).toNatClampNeg 0) h h1 h32)
set_option maxRecDepth 100000 in
set_option maxHeartbeats 4000000 in
theorem xm_cwrite (P : xw_T) (σ τ : xf_T) (kind key nv life kt : Int32) : xf_F (xw_l P) xny_MO_write xnc_MO_write 6 (some .boolean) 0 0 (xw_W P) (xw_D P) (xw_ty P) [.ref (xw_a P 100), .int kind, .int key, .int nv, .int life, .int kt] (σ, τ) (some (.int (xm_wOK τ kind life))) (σ, xm_write τ kind key nv life kt) := by
  refine xf_start (own := xnR_MO) [some (.ref (xw_a P 100)), some (.int kind), some (.int key), some (.int nv), some (.int life), some (.int kt)] rfl (by decide) (Nat.le_of_ble_eq_true rfl) rfl (xf_cat rfl) ?_
  intro X hX hE
  refine xf_aload_n hX 1 rfl 0 xnd_MO_write_0 rfl rfl ?_
  refine xg_MO_next hX 4 rfl xk_MO_99 xnd_MO_write_1 ?_
  refine xf_if_gt hX 7 rfl 29 xnd_MO_write_4 (by decide) (fun h4 => ?_) (fun h4 => ?_)
  · refine xf_iconst hX 30 rfl (0) xnd_MO_write_29 (by decide) ?_
    refine xf_zret hX hE xnd_MO_write_30 rfl ?_
    have e9 : xm_wOK τ kind life = 0 := by simp only [xm_wOK, h4, if_true, if_false]
    exact ⟨by rw [e9], by unfold xm_write; rw [if_pos e9]⟩
  · refine xf_iload_n hX 8 rfl 1 xnd_MO_write_7 rfl rfl ?_
    refine xf_if_lt hX 11 rfl 29 xnd_MO_write_8 (by decide) (fun h8 => ?_) (fun h8 => ?_)
    · refine xf_iconst hX 30 rfl (0) xnd_MO_write_29 (by decide) ?_
      refine xf_zret hX hE xnd_MO_write_30 rfl ?_
      have e9 : xm_wOK τ kind life = 0 := by simp only [xm_wOK, h4, h8, if_true, if_false]
      exact ⟨by rw [e9], by unfold xm_write; rw [if_pos e9]⟩
    · refine xf_iload_n hX 12 rfl 1 xnd_MO_write_11 rfl rfl ?_
      refine xf_iconst hX 13 rfl (4) xnd_MO_write_12 (by decide) ?_
      refine xf_icmp_gt hX 16 rfl 29 xnd_MO_write_13 (by decide) (fun h13 => ?_) (fun h13 => ?_)
      · refine xf_iconst hX 30 rfl (0) xnd_MO_write_29 (by decide) ?_
        refine xf_zret hX hE xnd_MO_write_30 rfl ?_
        have e9 : xm_wOK τ kind life = 0 := by simp only [xm_wOK, h4, h8, h13, if_true, if_false]
        exact ⟨by rw [e9], by unfold xm_write; rw [if_pos e9]⟩
      · refine xf_iload hX 18 rfl xnd_MO_write_16 rfl ?_
        refine xf_if_lt hX 21 rfl 29 xnd_MO_write_18 (by decide) (fun h18 => ?_) (fun h18 => ?_)
        · refine xf_iconst hX 30 rfl (0) xnd_MO_write_29 (by decide) ?_
          refine xf_zret hX hE xnd_MO_write_30 rfl ?_
          have e9 : xm_wOK τ kind life = 0 := by simp only [xm_wOK, h4, h8, h13, h18, if_true, if_false]
          exact ⟨by rw [e9], by unfold xm_write; rw [if_pos e9]⟩
        · refine xf_iload hX 23 rfl xnd_MO_write_21 rfl ?_
          refine xf_sipush hX 26 rfl (1000) xnd_MO_write_23 (by decide) ?_
          refine xf_icmp_le hX 29 rfl 31 xnd_MO_write_26 (by decide) (fun h26 => ?_) (fun h26 => ?_)
          · refine xf_aload_n hX 32 rfl 0 xnd_MO_write_31 rfl rfl ?_
            refine xf_iload_n hX 33 rfl 1 xnd_MO_write_32 rfl rfl ?_
            refine xp_MO_kind hX 36 rfl xk_MO_102 xnd_MO_write_33 ?_
            refine xf_aload_n hX 37 rfl 0 xnd_MO_write_36 rfl rfl ?_
            refine xf_iload_n hX 38 rfl 2 xnd_MO_write_37 rfl rfl ?_
            refine xp_MO_key hX 41 rfl xk_MO_105 xnd_MO_write_38 ?_
            refine xf_aload_n hX 42 rfl 0 xnd_MO_write_41 rfl rfl ?_
            refine xf_iload_n hX 43 rfl 3 xnd_MO_write_42 rfl rfl ?_
            refine xp_MO_put hX 46 rfl xk_MO_108 xnd_MO_write_43 ?_
            refine xf_aload_n hX 47 rfl 0 xnd_MO_write_46 rfl rfl ?_
            refine xf_iload hX 49 rfl xnd_MO_write_47 rfl ?_
            refine xp_MO_life hX 52 rfl xk_MO_111 xnd_MO_write_49 ?_
            refine xf_aload_n hX 53 rfl 0 xnd_MO_write_52 rfl rfl ?_
            refine xf_iload hX 55 rfl xnd_MO_write_53 rfl ?_
            refine xp_MO_wanted hX 58 rfl xk_MO_114 xnd_MO_write_55 ?_
            refine xf_aload_n hX 59 rfl 0 xnd_MO_write_58 rfl rfl ?_
            refine xf_iconst hX 60 rfl (1) xnd_MO_write_59 (by decide) ?_
            refine xp_MO_next hX 63 rfl xk_MO_99 xnd_MO_write_60 ?_
            refine xf_iconst hX 64 rfl (1) xnd_MO_write_63 (by decide) ?_
            refine xf_zret hX hE xnd_MO_write_64 rfl ?_
            have e9 : xm_wOK τ kind life = 1 := by simp only [xm_wOK, h4, h8, h13, h18, h26, if_true, if_false]
            exact ⟨by rw [e9], by unfold xm_write; rw [e9, if_neg (by decide)]⟩
          · refine xf_iconst hX 30 rfl (0) xnd_MO_write_29 (by decide) ?_
            refine xf_zret hX hE xnd_MO_write_30 rfl ?_
            have e9 : xm_wOK τ kind life = 0 := by simp only [xm_wOK, h4, h8, h13, h18, h26, if_true, if_false]
            exact ⟨by rw [e9], by unfold xm_write; rw [if_pos e9]⟩

set_option maxRecDepth 100000 in
set_option maxHeartbeats 4000000 in
theorem xm_cout (P : xw_T) (σ τ : xf_T) : xf_F (xw_l P) xny_MO_outcome xnc_MO_outcome 1 (some .int) 0 0 (xw_W P) (xw_D P) (xw_ty P) [.ref (xw_a P 100)] (σ, τ) (some (.int (xm_out τ))) (σ, τ) := by
  refine xf_start (own := xnR_MO) [some (.ref (xw_a P 100))] rfl (by decide) (Nat.le_of_ble_eq_true rfl) rfl (xf_cat rfl) ?_
  intro X hX hE
  refine xf_aload_n hX 1 rfl 0 xnd_MO_outcome_0 rfl rfl ?_
  refine xg_MO_next hX 4 rfl xk_MO_99 xnd_MO_outcome_1 ?_
  refine xf_if_le hX 7 rfl 11 xnd_MO_outcome_4 (by decide) (fun h4 => ?_) (fun h4 => ?_)
  · refine xf_aload_n hX 12 rfl 0 xnd_MO_outcome_11 rfl rfl ?_
    refine xg_MO_result hX 15 rfl xk_MO_35 xnd_MO_outcome_12 ?_
    refine xf_iret hX hE xnd_MO_outcome_15 ?_
    refine ⟨?_, rfl⟩
    simp only [xm_out, h4, if_true, if_false]
  · refine xf_iconst hX 8 rfl (0) xnd_MO_outcome_7 (by decide) ?_
    refine xf_goto hX 15 xnd_MO_outcome_8 (by decide) ?_
    refine xf_iret hX hE xnd_MO_outcome_15 ?_
    refine ⟨?_, rfl⟩
    simp only [xm_out, h4, if_true, if_false]

set_option maxRecDepth 100000 in
set_option maxHeartbeats 4000000 in
theorem xm_cway (P : xw_T) (σ τ FIN : xf_T) {X : xf_C} (hX : xf_ok X (xw_l P) xnR_MO xnc_MO_begin 3 6 135 (xw_W P) (xw_D P) (xw_ty P)) (hFin : xm_way (xw_n P) (xw_w P) τ = FIN) : (τ.1 5 = 0 ∨ τ.1 5 = 1 ∨ τ.1 5 = 2 ∨ τ.1 5 = 3 ∨ τ.1 5 = 4) → xm_okP (xw_n P) (xw_w P) τ → (¬ τ.1 10 < 0 → vp_in (τ.1 10) 32) → xf_end X none (fun v u => v = none ∧ u = (σ, FIN)) → ∀ x1, xf_V X 75 [some (.ref (xw_a P 100)), x1, none] [] (σ, τ) := by
  subst hFin
  intro hkd ho hi0 hE x1
  have hw := ho.2
  by_cases hf : τ.1 10 < 0
  · rcases hkd with hk | hk | hk | hk | hk
    · refine xf_aload_n hX 76 rfl 0 xnd_MO_begin_75 rfl rfl ?_
      refine xg_MO_target hX 79 rfl xk_MO_123 xnd_MO_begin_76 ?_
      refine xf_if_lt hX 82 rfl 86 xnd_MO_begin_79 (by decide) (fun _ => ?_) (fun h79 => absurd hf h79)
      refine xf_iconst hX 87 rfl (0) xnd_MO_begin_86 (by decide) ?_
      refine xf_istore_n hX 88 rfl 2 xnd_MO_begin_87 rfl (by decide) ?_
      dsimp only [List.set]
      refine xf_aload_n hX 89 rfl 0 xnd_MO_begin_88 rfl rfl ?_
      refine xg_MO_kind hX 92 rfl xk_MO_102 xnd_MO_begin_89 ?_
      rw [hk]
      refine xf_if_ne hX 95 rfl 99 xnd_MO_begin_92 (by decide) (fun h92 => False.elim (by revert h92; decide)) (fun _ => ?_)
      refine xf_iload_n hX 96 rfl 2 xnd_MO_begin_95 rfl rfl ?_
      refine xf_if_ne hX 99 rfl 139 xnd_MO_begin_96 (by decide) (fun h96 => False.elim (by revert h96; decide)) (fun _ => ?_)
      refine xf_aload_n hX 100 rfl 0 xnd_MO_begin_99 rfl rfl ?_
      refine xg_MO_kind hX 103 rfl xk_MO_102 xnd_MO_begin_100 ?_
      rw [hk]
      refine xf_iconst hX 104 rfl (2) xnd_MO_begin_103 (by decide) ?_
      refine xf_icmp_ne hX 107 rfl 111 xnd_MO_begin_104 (by decide) (fun _ => ?_) (fun h104 => False.elim (by revert h104; decide))
      refine xf_aload_n hX 112 rfl 0 xnd_MO_begin_111 rfl rfl ?_
      refine xg_MO_kind hX 115 rfl xk_MO_102 xnd_MO_begin_112 ?_
      rw [hk]
      refine xf_iconst hX 116 rfl (3) xnd_MO_begin_115 (by decide) ?_
      refine xf_icmp_ne hX 119 rfl 147 xnd_MO_begin_116 (by decide) (fun _ => ?_) (fun h116 => False.elim (by revert h116; decide))
      refine xf_aload_n hX 148 rfl 0 xnd_MO_begin_147 rfl rfl ?_
      refine xg_MO_kind hX 151 rfl xk_MO_102 xnd_MO_begin_148 ?_
      rw [hk]
      refine xf_iconst hX 152 rfl (2) xnd_MO_begin_151 (by decide) ?_
      refine xf_icmp_ge hX 155 rfl 190 xnd_MO_begin_152 (by decide) (fun h152 => False.elim (by revert h152; decide)) (fun _ => ?_)
      refine xf_iload_n hX 156 rfl 2 xnd_MO_begin_155 rfl rfl ?_
      refine xf_if_eq hX 159 rfl 167 xnd_MO_begin_156 (by decide) (fun _ => ?_) (fun h156 => False.elim (by revert h156; decide))
      refine xf_aload_n hX 168 rfl 0 xnd_MO_begin_167 rfl rfl ?_
      refine xf_aload_n hX 169 rfl 0 xnd_MO_begin_168 rfl rfl ?_
      refine xf_V0i hX 172 rfl (xm_cmny P _ _ (by omega)) xq_MO_many xk_MO_161 xrM_MO rfl rfl xnd_MO_begin_169 ?_
      refine xf_aload_n hX 173 rfl 0 xnd_MO_begin_172 rfl rfl ?_
      refine xg_MO_items hX 176 rfl xk_MO_66 xnd_MO_begin_173 ?_
      refine xf_icmp_ne hX 179 rfl 183 xnd_MO_begin_176 (by decide) (fun h176 => ?_) (fun h176 => ?_)
      · refine xf_iconst hX 184 rfl (5) xnd_MO_begin_183 (by decide) ?_
        refine xp_MO_next hX 187 rfl xk_MO_99 xnd_MO_begin_184 ?_
        refine xf_goto hX 247 xnd_MO_begin_187 (by decide) ?_
        refine xf_vret hX hE xnd_MO_begin_247 ?_
        refine ⟨rfl, ?_⟩
        unfold xm_way
        rw [if_pos hf, if_pos (by rw [hk]; decide)]
        simp only [h176, if_true, if_false]
      · refine xf_iconst hX 180 rfl (4) xnd_MO_begin_179 (by decide) ?_
        refine xf_goto hX 184 xnd_MO_begin_180 (by decide) ?_
        refine xp_MO_next hX 187 rfl xk_MO_99 xnd_MO_begin_184 ?_
        refine xf_goto hX 247 xnd_MO_begin_187 (by decide) ?_
        refine xf_vret hX hE xnd_MO_begin_247 ?_
        refine ⟨rfl, ?_⟩
        unfold xm_way
        rw [if_pos hf, if_pos (by rw [hk]; decide)]
        simp only [eq_true h176, if_true, if_false]
    · refine xf_aload_n hX 76 rfl 0 xnd_MO_begin_75 rfl rfl ?_
      refine xg_MO_target hX 79 rfl xk_MO_123 xnd_MO_begin_76 ?_
      refine xf_if_lt hX 82 rfl 86 xnd_MO_begin_79 (by decide) (fun _ => ?_) (fun h79 => absurd hf h79)
      refine xf_iconst hX 87 rfl (0) xnd_MO_begin_86 (by decide) ?_
      refine xf_istore_n hX 88 rfl 2 xnd_MO_begin_87 rfl (by decide) ?_
      dsimp only [List.set]
      refine xf_aload_n hX 89 rfl 0 xnd_MO_begin_88 rfl rfl ?_
      refine xg_MO_kind hX 92 rfl xk_MO_102 xnd_MO_begin_89 ?_
      rw [hk]
      refine xf_if_ne hX 95 rfl 99 xnd_MO_begin_92 (by decide) (fun _ => ?_) (fun h92 => False.elim (by revert h92; decide))
      refine xf_aload_n hX 100 rfl 0 xnd_MO_begin_99 rfl rfl ?_
      refine xg_MO_kind hX 103 rfl xk_MO_102 xnd_MO_begin_100 ?_
      rw [hk]
      refine xf_iconst hX 104 rfl (2) xnd_MO_begin_103 (by decide) ?_
      refine xf_icmp_ne hX 107 rfl 111 xnd_MO_begin_104 (by decide) (fun _ => ?_) (fun h104 => False.elim (by revert h104; decide))
      refine xf_aload_n hX 112 rfl 0 xnd_MO_begin_111 rfl rfl ?_
      refine xg_MO_kind hX 115 rfl xk_MO_102 xnd_MO_begin_112 ?_
      rw [hk]
      refine xf_iconst hX 116 rfl (3) xnd_MO_begin_115 (by decide) ?_
      refine xf_icmp_ne hX 119 rfl 147 xnd_MO_begin_116 (by decide) (fun _ => ?_) (fun h116 => False.elim (by revert h116; decide))
      refine xf_aload_n hX 148 rfl 0 xnd_MO_begin_147 rfl rfl ?_
      refine xg_MO_kind hX 151 rfl xk_MO_102 xnd_MO_begin_148 ?_
      rw [hk]
      refine xf_iconst hX 152 rfl (2) xnd_MO_begin_151 (by decide) ?_
      refine xf_icmp_ge hX 155 rfl 190 xnd_MO_begin_152 (by decide) (fun h152 => False.elim (by revert h152; decide)) (fun _ => ?_)
      refine xf_iload_n hX 156 rfl 2 xnd_MO_begin_155 rfl rfl ?_
      refine xf_if_eq hX 159 rfl 167 xnd_MO_begin_156 (by decide) (fun _ => ?_) (fun h156 => False.elim (by revert h156; decide))
      refine xf_aload_n hX 168 rfl 0 xnd_MO_begin_167 rfl rfl ?_
      refine xf_aload_n hX 169 rfl 0 xnd_MO_begin_168 rfl rfl ?_
      refine xf_V0i hX 172 rfl (xm_cmny P _ _ (by omega)) xq_MO_many xk_MO_161 xrM_MO rfl rfl xnd_MO_begin_169 ?_
      refine xf_aload_n hX 173 rfl 0 xnd_MO_begin_172 rfl rfl ?_
      refine xg_MO_items hX 176 rfl xk_MO_66 xnd_MO_begin_173 ?_
      refine xf_icmp_ne hX 179 rfl 183 xnd_MO_begin_176 (by decide) (fun h176 => ?_) (fun h176 => ?_)
      · refine xf_iconst hX 184 rfl (5) xnd_MO_begin_183 (by decide) ?_
        refine xp_MO_next hX 187 rfl xk_MO_99 xnd_MO_begin_184 ?_
        refine xf_goto hX 247 xnd_MO_begin_187 (by decide) ?_
        refine xf_vret hX hE xnd_MO_begin_247 ?_
        refine ⟨rfl, ?_⟩
        unfold xm_way
        rw [if_pos hf, if_pos (by rw [hk]; decide)]
        simp only [h176, if_true, if_false]
      · refine xf_iconst hX 180 rfl (4) xnd_MO_begin_179 (by decide) ?_
        refine xf_goto hX 184 xnd_MO_begin_180 (by decide) ?_
        refine xp_MO_next hX 187 rfl xk_MO_99 xnd_MO_begin_184 ?_
        refine xf_goto hX 247 xnd_MO_begin_187 (by decide) ?_
        refine xf_vret hX hE xnd_MO_begin_247 ?_
        refine ⟨rfl, ?_⟩
        unfold xm_way
        rw [if_pos hf, if_pos (by rw [hk]; decide)]
        simp only [eq_true h176, if_true, if_false]
    · refine xf_aload_n hX 76 rfl 0 xnd_MO_begin_75 rfl rfl ?_
      refine xg_MO_target hX 79 rfl xk_MO_123 xnd_MO_begin_76 ?_
      refine xf_if_lt hX 82 rfl 86 xnd_MO_begin_79 (by decide) (fun _ => ?_) (fun h79 => absurd hf h79)
      refine xf_iconst hX 87 rfl (0) xnd_MO_begin_86 (by decide) ?_
      refine xf_istore_n hX 88 rfl 2 xnd_MO_begin_87 rfl (by decide) ?_
      dsimp only [List.set]
      refine xf_aload_n hX 89 rfl 0 xnd_MO_begin_88 rfl rfl ?_
      refine xg_MO_kind hX 92 rfl xk_MO_102 xnd_MO_begin_89 ?_
      rw [hk]
      refine xf_if_ne hX 95 rfl 99 xnd_MO_begin_92 (by decide) (fun _ => ?_) (fun h92 => False.elim (by revert h92; decide))
      refine xf_aload_n hX 100 rfl 0 xnd_MO_begin_99 rfl rfl ?_
      refine xg_MO_kind hX 103 rfl xk_MO_102 xnd_MO_begin_100 ?_
      rw [hk]
      refine xf_iconst hX 104 rfl (2) xnd_MO_begin_103 (by decide) ?_
      refine xf_icmp_ne hX 107 rfl 111 xnd_MO_begin_104 (by decide) (fun h104 => False.elim (by revert h104; decide)) (fun _ => ?_)
      refine xf_iload_n hX 108 rfl 2 xnd_MO_begin_107 rfl rfl ?_
      refine xf_if_ne hX 111 rfl 139 xnd_MO_begin_108 (by decide) (fun h108 => False.elim (by revert h108; decide)) (fun _ => ?_)
      refine xf_aload_n hX 112 rfl 0 xnd_MO_begin_111 rfl rfl ?_
      refine xg_MO_kind hX 115 rfl xk_MO_102 xnd_MO_begin_112 ?_
      rw [hk]
      refine xf_iconst hX 116 rfl (3) xnd_MO_begin_115 (by decide) ?_
      refine xf_icmp_ne hX 119 rfl 147 xnd_MO_begin_116 (by decide) (fun _ => ?_) (fun h116 => False.elim (by revert h116; decide))
      refine xf_aload_n hX 148 rfl 0 xnd_MO_begin_147 rfl rfl ?_
      refine xg_MO_kind hX 151 rfl xk_MO_102 xnd_MO_begin_148 ?_
      rw [hk]
      refine xf_iconst hX 152 rfl (2) xnd_MO_begin_151 (by decide) ?_
      refine xf_icmp_ge hX 155 rfl 190 xnd_MO_begin_152 (by decide) (fun _ => ?_) (fun h152 => False.elim (by revert h152; decide))
      refine xf_aload_n hX 191 rfl 0 xnd_MO_begin_190 rfl rfl ?_
      refine xg_MO_kind hX 194 rfl xk_MO_102 xnd_MO_begin_191 ?_
      rw [hk]
      refine xf_iconst hX 195 rfl (2) xnd_MO_begin_194 (by decide) ?_
      refine xf_icmp_ne hX 198 rfl 206 xnd_MO_begin_195 (by decide) (fun h195 => False.elim (by revert h195; decide)) (fun _ => ?_)
      refine xf_aload_n hX 199 rfl 0 xnd_MO_begin_198 rfl rfl ?_
      refine xf_iconst hX 200 rfl (2) xnd_MO_begin_199 (by decide) ?_
      refine xf_V1v hX 203 rfl (xm_cfin P _ _ _) xq_MO_finish xk_MO_130 xrM_MO rfl rfl xnd_MO_begin_200 ?_
      refine xf_goto hX 247 xnd_MO_begin_203 (by decide) ?_
      refine xf_vret hX hE xnd_MO_begin_247 ?_
      refine ⟨rfl, ?_⟩
      unfold xm_way
      rw [if_pos hf, if_neg (by first | exact hk | (rw [hk]; decide)), if_pos (by first | exact hk | (rw [hk]; decide))]
    · refine xf_aload_n hX 76 rfl 0 xnd_MO_begin_75 rfl rfl ?_
      refine xg_MO_target hX 79 rfl xk_MO_123 xnd_MO_begin_76 ?_
      refine xf_if_lt hX 82 rfl 86 xnd_MO_begin_79 (by decide) (fun _ => ?_) (fun h79 => absurd hf h79)
      refine xf_iconst hX 87 rfl (0) xnd_MO_begin_86 (by decide) ?_
      refine xf_istore_n hX 88 rfl 2 xnd_MO_begin_87 rfl (by decide) ?_
      dsimp only [List.set]
      refine xf_aload_n hX 89 rfl 0 xnd_MO_begin_88 rfl rfl ?_
      refine xg_MO_kind hX 92 rfl xk_MO_102 xnd_MO_begin_89 ?_
      rw [hk]
      refine xf_if_ne hX 95 rfl 99 xnd_MO_begin_92 (by decide) (fun _ => ?_) (fun h92 => False.elim (by revert h92; decide))
      refine xf_aload_n hX 100 rfl 0 xnd_MO_begin_99 rfl rfl ?_
      refine xg_MO_kind hX 103 rfl xk_MO_102 xnd_MO_begin_100 ?_
      rw [hk]
      refine xf_iconst hX 104 rfl (2) xnd_MO_begin_103 (by decide) ?_
      refine xf_icmp_ne hX 107 rfl 111 xnd_MO_begin_104 (by decide) (fun _ => ?_) (fun h104 => False.elim (by revert h104; decide))
      refine xf_aload_n hX 112 rfl 0 xnd_MO_begin_111 rfl rfl ?_
      refine xg_MO_kind hX 115 rfl xk_MO_102 xnd_MO_begin_112 ?_
      rw [hk]
      refine xf_iconst hX 116 rfl (3) xnd_MO_begin_115 (by decide) ?_
      refine xf_icmp_ne hX 119 rfl 147 xnd_MO_begin_116 (by decide) (fun h116 => False.elim (by revert h116; decide)) (fun _ => ?_)
      refine xf_iload_n hX 120 rfl 2 xnd_MO_begin_119 rfl rfl ?_
      refine xf_if_eq hX 123 rfl 147 xnd_MO_begin_120 (by decide) (fun _ => ?_) (fun h120 => False.elim (by revert h120; decide))
      refine xf_aload_n hX 148 rfl 0 xnd_MO_begin_147 rfl rfl ?_
      refine xg_MO_kind hX 151 rfl xk_MO_102 xnd_MO_begin_148 ?_
      rw [hk]
      refine xf_iconst hX 152 rfl (2) xnd_MO_begin_151 (by decide) ?_
      refine xf_icmp_ge hX 155 rfl 190 xnd_MO_begin_152 (by decide) (fun _ => ?_) (fun h152 => False.elim (by revert h152; decide))
      refine xf_aload_n hX 191 rfl 0 xnd_MO_begin_190 rfl rfl ?_
      refine xg_MO_kind hX 194 rfl xk_MO_102 xnd_MO_begin_191 ?_
      rw [hk]
      refine xf_iconst hX 195 rfl (2) xnd_MO_begin_194 (by decide) ?_
      refine xf_icmp_ne hX 198 rfl 206 xnd_MO_begin_195 (by decide) (fun _ => ?_) (fun h195 => False.elim (by revert h195; decide))
      refine xf_iload_n hX 207 rfl 2 xnd_MO_begin_206 rfl rfl ?_
      refine xf_if_ne hX 210 rfl 218 xnd_MO_begin_207 (by decide) (fun h207 => False.elim (by revert h207; decide)) (fun _ => ?_)
      refine xf_aload_n hX 211 rfl 0 xnd_MO_begin_210 rfl rfl ?_
      refine xf_iconst hX 212 rfl (4) xnd_MO_begin_211 (by decide) ?_
      refine xf_V1v hX 215 rfl (xm_cfin P _ _ _) xq_MO_finish xk_MO_130 xrM_MO rfl rfl xnd_MO_begin_212 ?_
      refine xf_goto hX 247 xnd_MO_begin_215 (by decide) ?_
      refine xf_vret hX hE xnd_MO_begin_247 ?_
      refine ⟨rfl, ?_⟩
      unfold xm_way
      rw [if_pos hf, if_neg (by first | exact hk | (rw [hk]; decide)), if_neg (by first | exact hk | (rw [hk]; decide))]
    · refine xf_aload_n hX 76 rfl 0 xnd_MO_begin_75 rfl rfl ?_
      refine xg_MO_target hX 79 rfl xk_MO_123 xnd_MO_begin_76 ?_
      refine xf_if_lt hX 82 rfl 86 xnd_MO_begin_79 (by decide) (fun _ => ?_) (fun h79 => absurd hf h79)
      refine xf_iconst hX 87 rfl (0) xnd_MO_begin_86 (by decide) ?_
      refine xf_istore_n hX 88 rfl 2 xnd_MO_begin_87 rfl (by decide) ?_
      dsimp only [List.set]
      refine xf_aload_n hX 89 rfl 0 xnd_MO_begin_88 rfl rfl ?_
      refine xg_MO_kind hX 92 rfl xk_MO_102 xnd_MO_begin_89 ?_
      rw [hk]
      refine xf_if_ne hX 95 rfl 99 xnd_MO_begin_92 (by decide) (fun _ => ?_) (fun h92 => False.elim (by revert h92; decide))
      refine xf_aload_n hX 100 rfl 0 xnd_MO_begin_99 rfl rfl ?_
      refine xg_MO_kind hX 103 rfl xk_MO_102 xnd_MO_begin_100 ?_
      rw [hk]
      refine xf_iconst hX 104 rfl (2) xnd_MO_begin_103 (by decide) ?_
      refine xf_icmp_ne hX 107 rfl 111 xnd_MO_begin_104 (by decide) (fun _ => ?_) (fun h104 => False.elim (by revert h104; decide))
      refine xf_aload_n hX 112 rfl 0 xnd_MO_begin_111 rfl rfl ?_
      refine xg_MO_kind hX 115 rfl xk_MO_102 xnd_MO_begin_112 ?_
      rw [hk]
      refine xf_iconst hX 116 rfl (3) xnd_MO_begin_115 (by decide) ?_
      refine xf_icmp_ne hX 119 rfl 147 xnd_MO_begin_116 (by decide) (fun _ => ?_) (fun h116 => False.elim (by revert h116; decide))
      refine xf_aload_n hX 148 rfl 0 xnd_MO_begin_147 rfl rfl ?_
      refine xg_MO_kind hX 151 rfl xk_MO_102 xnd_MO_begin_148 ?_
      rw [hk]
      refine xf_iconst hX 152 rfl (2) xnd_MO_begin_151 (by decide) ?_
      refine xf_icmp_ge hX 155 rfl 190 xnd_MO_begin_152 (by decide) (fun _ => ?_) (fun h152 => False.elim (by revert h152; decide))
      refine xf_aload_n hX 191 rfl 0 xnd_MO_begin_190 rfl rfl ?_
      refine xg_MO_kind hX 194 rfl xk_MO_102 xnd_MO_begin_191 ?_
      rw [hk]
      refine xf_iconst hX 195 rfl (2) xnd_MO_begin_194 (by decide) ?_
      refine xf_icmp_ne hX 198 rfl 206 xnd_MO_begin_195 (by decide) (fun _ => ?_) (fun h195 => False.elim (by revert h195; decide))
      refine xf_iload_n hX 207 rfl 2 xnd_MO_begin_206 rfl rfl ?_
      refine xf_if_ne hX 210 rfl 218 xnd_MO_begin_207 (by decide) (fun h207 => False.elim (by revert h207; decide)) (fun _ => ?_)
      refine xf_aload_n hX 211 rfl 0 xnd_MO_begin_210 rfl rfl ?_
      refine xf_iconst hX 212 rfl (4) xnd_MO_begin_211 (by decide) ?_
      refine xf_V1v hX 215 rfl (xm_cfin P _ _ _) xq_MO_finish xk_MO_130 xrM_MO rfl rfl xnd_MO_begin_212 ?_
      refine xf_goto hX 247 xnd_MO_begin_215 (by decide) ?_
      refine xf_vret hX hE xnd_MO_begin_247 ?_
      refine ⟨rfl, ?_⟩
      unfold xm_way
      rw [if_pos hf, if_neg (by first | exact hk | (rw [hk]; decide)), if_neg (by first | exact hk | (rw [hk]; decide))]
  · have hi := hi0 hf
    rcases hkd with hk | hk | hk | hk | hk
    · refine xf_aload_n hX 76 rfl 0 xnd_MO_begin_75 rfl rfl ?_
      refine xg_MO_target hX 79 rfl xk_MO_123 xnd_MO_begin_76 ?_
      refine xf_if_lt hX 82 rfl 86 xnd_MO_begin_79 (by decide) (fun h79 => absurd h79 hf) (fun _ => ?_)
      refine xf_iconst hX 83 rfl (1) xnd_MO_begin_82 (by decide) ?_
      refine xf_goto hX 87 xnd_MO_begin_83 (by decide) ?_
      refine xf_istore_n hX 88 rfl 2 xnd_MO_begin_87 rfl (by decide) ?_
      dsimp only [List.set]
      refine xf_aload_n hX 89 rfl 0 xnd_MO_begin_88 rfl rfl ?_
      refine xg_MO_kind hX 92 rfl xk_MO_102 xnd_MO_begin_89 ?_
      rw [hk]
      refine xf_if_ne hX 95 rfl 99 xnd_MO_begin_92 (by decide) (fun h92 => False.elim (by revert h92; decide)) (fun _ => ?_)
      refine xf_iload_n hX 96 rfl 2 xnd_MO_begin_95 rfl rfl ?_
      refine xf_if_ne hX 99 rfl 139 xnd_MO_begin_96 (by decide) (fun _ => ?_) (fun h96 => False.elim (by revert h96; decide))
      refine xf_aload_n hX 140 rfl 0 xnd_MO_begin_139 rfl rfl ?_
      refine xf_iconst hX 141 rfl (2) xnd_MO_begin_140 (by decide) ?_
      refine xp_MO_next hX 144 rfl xk_MO_99 xnd_MO_begin_141 ?_
      refine xf_goto hX 247 xnd_MO_begin_144 (by decide) ?_
      refine xf_vret hX hE xnd_MO_begin_247 ?_
      refine ⟨rfl, ?_⟩
      unfold xm_way
      rw [if_neg hf, if_pos (by first | exact hk | (rw [hk]; decide))]
    · refine xf_aload_n hX 76 rfl 0 xnd_MO_begin_75 rfl rfl ?_
      refine xg_MO_target hX 79 rfl xk_MO_123 xnd_MO_begin_76 ?_
      refine xf_if_lt hX 82 rfl 86 xnd_MO_begin_79 (by decide) (fun h79 => absurd h79 hf) (fun _ => ?_)
      refine xf_iconst hX 83 rfl (1) xnd_MO_begin_82 (by decide) ?_
      refine xf_goto hX 87 xnd_MO_begin_83 (by decide) ?_
      refine xf_istore_n hX 88 rfl 2 xnd_MO_begin_87 rfl (by decide) ?_
      dsimp only [List.set]
      refine xf_aload_n hX 89 rfl 0 xnd_MO_begin_88 rfl rfl ?_
      refine xg_MO_kind hX 92 rfl xk_MO_102 xnd_MO_begin_89 ?_
      rw [hk]
      refine xf_if_ne hX 95 rfl 99 xnd_MO_begin_92 (by decide) (fun _ => ?_) (fun h92 => False.elim (by revert h92; decide))
      refine xf_aload_n hX 100 rfl 0 xnd_MO_begin_99 rfl rfl ?_
      refine xg_MO_kind hX 103 rfl xk_MO_102 xnd_MO_begin_100 ?_
      rw [hk]
      refine xf_iconst hX 104 rfl (2) xnd_MO_begin_103 (by decide) ?_
      refine xf_icmp_ne hX 107 rfl 111 xnd_MO_begin_104 (by decide) (fun _ => ?_) (fun h104 => False.elim (by revert h104; decide))
      refine xf_aload_n hX 112 rfl 0 xnd_MO_begin_111 rfl rfl ?_
      refine xg_MO_kind hX 115 rfl xk_MO_102 xnd_MO_begin_112 ?_
      rw [hk]
      refine xf_iconst hX 116 rfl (3) xnd_MO_begin_115 (by decide) ?_
      refine xf_icmp_ne hX 119 rfl 147 xnd_MO_begin_116 (by decide) (fun _ => ?_) (fun h116 => False.elim (by revert h116; decide))
      refine xf_aload_n hX 148 rfl 0 xnd_MO_begin_147 rfl rfl ?_
      refine xg_MO_kind hX 151 rfl xk_MO_102 xnd_MO_begin_148 ?_
      rw [hk]
      refine xf_iconst hX 152 rfl (2) xnd_MO_begin_151 (by decide) ?_
      refine xf_icmp_ge hX 155 rfl 190 xnd_MO_begin_152 (by decide) (fun h152 => False.elim (by revert h152; decide)) (fun _ => ?_)
      refine xf_iload_n hX 156 rfl 2 xnd_MO_begin_155 rfl rfl ?_
      refine xf_if_eq hX 159 rfl 167 xnd_MO_begin_156 (by decide) (fun h156 => False.elim (by revert h156; decide)) (fun _ => ?_)
      refine xf_aload_n hX 160 rfl 0 xnd_MO_begin_159 rfl rfl ?_
      refine xf_iconst hX 161 rfl (2) xnd_MO_begin_160 (by decide) ?_
      refine xf_V1v hX 164 rfl (xm_cfin P _ _ _) xq_MO_finish xk_MO_130 xrM_MO rfl rfl xnd_MO_begin_161 ?_
      refine xf_goto hX 247 xnd_MO_begin_164 (by decide) ?_
      refine xf_vret hX hE xnd_MO_begin_247 ?_
      refine ⟨rfl, ?_⟩
      unfold xm_way
      rw [if_neg hf, if_neg (by first | exact hk | (rw [hk]; decide)), if_pos (by first | exact hk | (rw [hk]; decide))]
    · refine xf_aload_n hX 76 rfl 0 xnd_MO_begin_75 rfl rfl ?_
      refine xg_MO_target hX 79 rfl xk_MO_123 xnd_MO_begin_76 ?_
      refine xf_if_lt hX 82 rfl 86 xnd_MO_begin_79 (by decide) (fun h79 => absurd h79 hf) (fun _ => ?_)
      refine xf_iconst hX 83 rfl (1) xnd_MO_begin_82 (by decide) ?_
      refine xf_goto hX 87 xnd_MO_begin_83 (by decide) ?_
      refine xf_istore_n hX 88 rfl 2 xnd_MO_begin_87 rfl (by decide) ?_
      dsimp only [List.set]
      refine xf_aload_n hX 89 rfl 0 xnd_MO_begin_88 rfl rfl ?_
      refine xg_MO_kind hX 92 rfl xk_MO_102 xnd_MO_begin_89 ?_
      rw [hk]
      refine xf_if_ne hX 95 rfl 99 xnd_MO_begin_92 (by decide) (fun _ => ?_) (fun h92 => False.elim (by revert h92; decide))
      refine xf_aload_n hX 100 rfl 0 xnd_MO_begin_99 rfl rfl ?_
      refine xg_MO_kind hX 103 rfl xk_MO_102 xnd_MO_begin_100 ?_
      rw [hk]
      refine xf_iconst hX 104 rfl (2) xnd_MO_begin_103 (by decide) ?_
      refine xf_icmp_ne hX 107 rfl 111 xnd_MO_begin_104 (by decide) (fun h104 => False.elim (by revert h104; decide)) (fun _ => ?_)
      refine xf_iload_n hX 108 rfl 2 xnd_MO_begin_107 rfl rfl ?_
      refine xf_if_ne hX 111 rfl 139 xnd_MO_begin_108 (by decide) (fun _ => ?_) (fun h108 => False.elim (by revert h108; decide))
      refine xf_aload_n hX 140 rfl 0 xnd_MO_begin_139 rfl rfl ?_
      refine xf_iconst hX 141 rfl (2) xnd_MO_begin_140 (by decide) ?_
      refine xp_MO_next hX 144 rfl xk_MO_99 xnd_MO_begin_141 ?_
      refine xf_goto hX 247 xnd_MO_begin_144 (by decide) ?_
      refine xf_vret hX hE xnd_MO_begin_247 ?_
      refine ⟨rfl, ?_⟩
      unfold xm_way
      rw [if_neg hf, if_pos (by first | exact hk | (rw [hk]; decide))]
    · by_cases heq : τ.2 5 (τ.1 10).toNatClampNeg = τ.1 9
      · refine xf_aload_n hX 76 rfl 0 xnd_MO_begin_75 rfl rfl ?_
        refine xg_MO_target hX 79 rfl xk_MO_123 xnd_MO_begin_76 ?_
        refine xf_if_lt hX 82 rfl 86 xnd_MO_begin_79 (by decide) (fun h79 => absurd h79 hf) (fun _ => ?_)
        refine xf_iconst hX 83 rfl (1) xnd_MO_begin_82 (by decide) ?_
        refine xf_goto hX 87 xnd_MO_begin_83 (by decide) ?_
        refine xf_istore_n hX 88 rfl 2 xnd_MO_begin_87 rfl (by decide) ?_
        dsimp only [List.set]
        refine xf_aload_n hX 89 rfl 0 xnd_MO_begin_88 rfl rfl ?_
        refine xg_MO_kind hX 92 rfl xk_MO_102 xnd_MO_begin_89 ?_
        rw [hk]
        refine xf_if_ne hX 95 rfl 99 xnd_MO_begin_92 (by decide) (fun _ => ?_) (fun h92 => False.elim (by revert h92; decide))
        refine xf_aload_n hX 100 rfl 0 xnd_MO_begin_99 rfl rfl ?_
        refine xg_MO_kind hX 103 rfl xk_MO_102 xnd_MO_begin_100 ?_
        rw [hk]
        refine xf_iconst hX 104 rfl (2) xnd_MO_begin_103 (by decide) ?_
        refine xf_icmp_ne hX 107 rfl 111 xnd_MO_begin_104 (by decide) (fun _ => ?_) (fun h104 => False.elim (by revert h104; decide))
        refine xf_aload_n hX 112 rfl 0 xnd_MO_begin_111 rfl rfl ?_
        refine xg_MO_kind hX 115 rfl xk_MO_102 xnd_MO_begin_112 ?_
        rw [hk]
        refine xf_iconst hX 116 rfl (3) xnd_MO_begin_115 (by decide) ?_
        refine xf_icmp_ne hX 119 rfl 147 xnd_MO_begin_116 (by decide) (fun h116 => False.elim (by revert h116; decide)) (fun _ => ?_)
        refine xf_iload_n hX 120 rfl 2 xnd_MO_begin_119 rfl rfl ?_
        refine xf_if_eq hX 123 rfl 147 xnd_MO_begin_120 (by decide) (fun h120 => False.elim (by revert h120; decide)) (fun _ => ?_)
        refine xf_aload_n hX 124 rfl 0 xnd_MO_begin_123 rfl rfl ?_
        refine xg_MO_marks hX 127 rfl xk_MO_23 xnd_MO_begin_124 ?_
        refine xf_aload_n hX 128 rfl 0 xnd_MO_begin_127 rfl rfl ?_
        refine xg_MO_target hX 131 rfl xk_MO_123 xnd_MO_begin_128 ?_
        refine xaM_iaload hX 132 rfl rfl hi xnd_MO_begin_131 ?_
        refine xf_aload_n hX 133 rfl 0 xnd_MO_begin_132 rfl rfl ?_
        refine xg_MO_wanted hX 136 rfl xk_MO_114 xnd_MO_begin_133 ?_
        refine xf_icmp_ne hX 139 rfl 147 xnd_MO_begin_136 (by decide) (fun h136 => absurd heq h136) (fun _ => ?_)
        refine xf_aload_n hX 140 rfl 0 xnd_MO_begin_139 rfl rfl ?_
        refine xf_iconst hX 141 rfl (2) xnd_MO_begin_140 (by decide) ?_
        refine xp_MO_next hX 144 rfl xk_MO_99 xnd_MO_begin_141 ?_
        refine xf_goto hX 247 xnd_MO_begin_144 (by decide) ?_
        refine xf_vret hX hE xnd_MO_begin_247 ?_
        refine ⟨rfl, ?_⟩
        unfold xm_way
        rw [if_neg hf, if_neg (by first | exact hk | (rw [hk]; decide)), if_neg (by first | exact hk | (rw [hk]; decide)), if_pos hk, if_pos heq]
      · refine xf_aload_n hX 76 rfl 0 xnd_MO_begin_75 rfl rfl ?_
        refine xg_MO_target hX 79 rfl xk_MO_123 xnd_MO_begin_76 ?_
        refine xf_if_lt hX 82 rfl 86 xnd_MO_begin_79 (by decide) (fun h79 => absurd h79 hf) (fun _ => ?_)
        refine xf_iconst hX 83 rfl (1) xnd_MO_begin_82 (by decide) ?_
        refine xf_goto hX 87 xnd_MO_begin_83 (by decide) ?_
        refine xf_istore_n hX 88 rfl 2 xnd_MO_begin_87 rfl (by decide) ?_
        dsimp only [List.set]
        refine xf_aload_n hX 89 rfl 0 xnd_MO_begin_88 rfl rfl ?_
        refine xg_MO_kind hX 92 rfl xk_MO_102 xnd_MO_begin_89 ?_
        rw [hk]
        refine xf_if_ne hX 95 rfl 99 xnd_MO_begin_92 (by decide) (fun _ => ?_) (fun h92 => False.elim (by revert h92; decide))
        refine xf_aload_n hX 100 rfl 0 xnd_MO_begin_99 rfl rfl ?_
        refine xg_MO_kind hX 103 rfl xk_MO_102 xnd_MO_begin_100 ?_
        rw [hk]
        refine xf_iconst hX 104 rfl (2) xnd_MO_begin_103 (by decide) ?_
        refine xf_icmp_ne hX 107 rfl 111 xnd_MO_begin_104 (by decide) (fun _ => ?_) (fun h104 => False.elim (by revert h104; decide))
        refine xf_aload_n hX 112 rfl 0 xnd_MO_begin_111 rfl rfl ?_
        refine xg_MO_kind hX 115 rfl xk_MO_102 xnd_MO_begin_112 ?_
        rw [hk]
        refine xf_iconst hX 116 rfl (3) xnd_MO_begin_115 (by decide) ?_
        refine xf_icmp_ne hX 119 rfl 147 xnd_MO_begin_116 (by decide) (fun h116 => False.elim (by revert h116; decide)) (fun _ => ?_)
        refine xf_iload_n hX 120 rfl 2 xnd_MO_begin_119 rfl rfl ?_
        refine xf_if_eq hX 123 rfl 147 xnd_MO_begin_120 (by decide) (fun h120 => False.elim (by revert h120; decide)) (fun _ => ?_)
        refine xf_aload_n hX 124 rfl 0 xnd_MO_begin_123 rfl rfl ?_
        refine xg_MO_marks hX 127 rfl xk_MO_23 xnd_MO_begin_124 ?_
        refine xf_aload_n hX 128 rfl 0 xnd_MO_begin_127 rfl rfl ?_
        refine xg_MO_target hX 131 rfl xk_MO_123 xnd_MO_begin_128 ?_
        refine xaM_iaload hX 132 rfl rfl hi xnd_MO_begin_131 ?_
        refine xf_aload_n hX 133 rfl 0 xnd_MO_begin_132 rfl rfl ?_
        refine xg_MO_wanted hX 136 rfl xk_MO_114 xnd_MO_begin_133 ?_
        refine xf_icmp_ne hX 139 rfl 147 xnd_MO_begin_136 (by decide) (fun _ => ?_) (fun h136 => absurd h136 heq)
        refine xf_aload_n hX 148 rfl 0 xnd_MO_begin_147 rfl rfl ?_
        refine xg_MO_kind hX 151 rfl xk_MO_102 xnd_MO_begin_148 ?_
        rw [hk]
        refine xf_iconst hX 152 rfl (2) xnd_MO_begin_151 (by decide) ?_
        refine xf_icmp_ge hX 155 rfl 190 xnd_MO_begin_152 (by decide) (fun _ => ?_) (fun h152 => False.elim (by revert h152; decide))
        refine xf_aload_n hX 191 rfl 0 xnd_MO_begin_190 rfl rfl ?_
        refine xg_MO_kind hX 194 rfl xk_MO_102 xnd_MO_begin_191 ?_
        rw [hk]
        refine xf_iconst hX 195 rfl (2) xnd_MO_begin_194 (by decide) ?_
        refine xf_icmp_ne hX 198 rfl 206 xnd_MO_begin_195 (by decide) (fun _ => ?_) (fun h195 => False.elim (by revert h195; decide))
        refine xf_iload_n hX 207 rfl 2 xnd_MO_begin_206 rfl rfl ?_
        refine xf_if_ne hX 210 rfl 218 xnd_MO_begin_207 (by decide) (fun _ => ?_) (fun h207 => False.elim (by revert h207; decide))
        refine xf_aload_n hX 219 rfl 0 xnd_MO_begin_218 rfl rfl ?_
        refine xg_MO_kind hX 222 rfl xk_MO_102 xnd_MO_begin_219 ?_
        rw [hk]
        refine xf_iconst hX 223 rfl (3) xnd_MO_begin_222 (by decide) ?_
        refine xf_icmp_ne hX 226 rfl 234 xnd_MO_begin_223 (by decide) (fun h223 => False.elim (by revert h223; decide)) (fun _ => ?_)
        refine xf_aload_n hX 227 rfl 0 xnd_MO_begin_226 rfl rfl ?_
        refine xf_iconst hX 228 rfl (3) xnd_MO_begin_227 (by decide) ?_
        refine xf_V1v hX 231 rfl (xm_cfin P _ _ _) xq_MO_finish xk_MO_130 xrM_MO rfl rfl xnd_MO_begin_228 ?_
        refine xf_goto hX 247 xnd_MO_begin_231 (by decide) ?_
        refine xf_vret hX hE xnd_MO_begin_247 ?_
        refine ⟨rfl, ?_⟩
        unfold xm_way
        rw [if_neg hf, if_neg (by first | exact hk | (rw [hk]; decide)), if_neg (by first | exact hk | (rw [hk]; decide)), if_pos hk, if_neg heq]
    · refine xf_aload_n hX 76 rfl 0 xnd_MO_begin_75 rfl rfl ?_
      refine xg_MO_target hX 79 rfl xk_MO_123 xnd_MO_begin_76 ?_
      refine xf_if_lt hX 82 rfl 86 xnd_MO_begin_79 (by decide) (fun h79 => absurd h79 hf) (fun _ => ?_)
      refine xf_iconst hX 83 rfl (1) xnd_MO_begin_82 (by decide) ?_
      refine xf_goto hX 87 xnd_MO_begin_83 (by decide) ?_
      refine xf_istore_n hX 88 rfl 2 xnd_MO_begin_87 rfl (by decide) ?_
      dsimp only [List.set]
      refine xf_aload_n hX 89 rfl 0 xnd_MO_begin_88 rfl rfl ?_
      refine xg_MO_kind hX 92 rfl xk_MO_102 xnd_MO_begin_89 ?_
      rw [hk]
      refine xf_if_ne hX 95 rfl 99 xnd_MO_begin_92 (by decide) (fun _ => ?_) (fun h92 => False.elim (by revert h92; decide))
      refine xf_aload_n hX 100 rfl 0 xnd_MO_begin_99 rfl rfl ?_
      refine xg_MO_kind hX 103 rfl xk_MO_102 xnd_MO_begin_100 ?_
      rw [hk]
      refine xf_iconst hX 104 rfl (2) xnd_MO_begin_103 (by decide) ?_
      refine xf_icmp_ne hX 107 rfl 111 xnd_MO_begin_104 (by decide) (fun _ => ?_) (fun h104 => False.elim (by revert h104; decide))
      refine xf_aload_n hX 112 rfl 0 xnd_MO_begin_111 rfl rfl ?_
      refine xg_MO_kind hX 115 rfl xk_MO_102 xnd_MO_begin_112 ?_
      rw [hk]
      refine xf_iconst hX 116 rfl (3) xnd_MO_begin_115 (by decide) ?_
      refine xf_icmp_ne hX 119 rfl 147 xnd_MO_begin_116 (by decide) (fun _ => ?_) (fun h116 => False.elim (by revert h116; decide))
      refine xf_aload_n hX 148 rfl 0 xnd_MO_begin_147 rfl rfl ?_
      refine xg_MO_kind hX 151 rfl xk_MO_102 xnd_MO_begin_148 ?_
      rw [hk]
      refine xf_iconst hX 152 rfl (2) xnd_MO_begin_151 (by decide) ?_
      refine xf_icmp_ge hX 155 rfl 190 xnd_MO_begin_152 (by decide) (fun _ => ?_) (fun h152 => False.elim (by revert h152; decide))
      refine xf_aload_n hX 191 rfl 0 xnd_MO_begin_190 rfl rfl ?_
      refine xg_MO_kind hX 194 rfl xk_MO_102 xnd_MO_begin_191 ?_
      rw [hk]
      refine xf_iconst hX 195 rfl (2) xnd_MO_begin_194 (by decide) ?_
      refine xf_icmp_ne hX 198 rfl 206 xnd_MO_begin_195 (by decide) (fun _ => ?_) (fun h195 => False.elim (by revert h195; decide))
      refine xf_iload_n hX 207 rfl 2 xnd_MO_begin_206 rfl rfl ?_
      refine xf_if_ne hX 210 rfl 218 xnd_MO_begin_207 (by decide) (fun _ => ?_) (fun h207 => False.elim (by revert h207; decide))
      refine xf_aload_n hX 219 rfl 0 xnd_MO_begin_218 rfl rfl ?_
      refine xg_MO_kind hX 222 rfl xk_MO_102 xnd_MO_begin_219 ?_
      rw [hk]
      refine xf_iconst hX 223 rfl (3) xnd_MO_begin_222 (by decide) ?_
      refine xf_icmp_ne hX 226 rfl 234 xnd_MO_begin_223 (by decide) (fun _ => ?_) (fun h223 => False.elim (by revert h223; decide))
      refine xf_aload_n hX 235 rfl 0 xnd_MO_begin_234 rfl rfl ?_
      refine xf_aload_n hX 236 rfl 0 xnd_MO_begin_235 rfl rfl ?_
      refine xg_MO_target hX 239 rfl xk_MO_123 xnd_MO_begin_236 ?_
      refine xf_V1v hX 242 rfl (xm_crem P _ _ _ ho hi) xq_MO_remove xk_MO_155 xrM_MO rfl rfl xnd_MO_begin_239 ?_
      refine xf_aload_n hX 243 rfl 0 xnd_MO_begin_242 rfl rfl ?_
      refine xf_iconst hX 244 rfl (5) xnd_MO_begin_243 (by decide) ?_
      refine xf_V1v hX 247 rfl (xm_cfin P _ _ _) xq_MO_finish xk_MO_130 xrM_MO rfl rfl xnd_MO_begin_244 ?_
      refine xf_vret hX hE xnd_MO_begin_247 ?_
      refine ⟨rfl, ?_⟩
      unfold xm_way
      rw [if_neg hf, if_neg (by first | exact hk | (rw [hk]; decide)), if_neg (by first | exact hk | (rw [hk]; decide)), if_neg (by first | exact hk | (rw [hk]; decide))]

theorem xm_okP.rem {n w : Nat} {τ : xf_T} (h : xm_okP n w τ) {i : Int32} (hi : vp_in i 32) : xm_okP n w (xm_rem w τ i) := by
  refine ⟨fun p hp => ?_, h.2⟩
  show xm_rmf (8 * w) (τ.2 1) i p = 0 ∨ ∃ j, j < n ∧ xm_rmf (8 * w) (τ.2 1) i p = nI (j + 1)
  rw [xm_rmf, if_pos hp]
  split
  · exact Or.inl rfl
  · exact h.1 p hp
set_option maxRecDepth 100000 in
set_option maxHeartbeats 4000000 in
theorem xm_cbegin (P : xw_T) (σ τ : xf_T) (ho : xm_okP (xw_n P) (xw_w P) τ) (hkd : τ.1 5 = 0 ∨ τ.1 5 = 1 ∨ τ.1 5 = 2 ∨ τ.1 5 = 3 ∨ τ.1 5 = 4) : xf_F (xw_l P) xny_MO_begin xnc_MO_begin 3 none 6 135 (xw_W P) (xw_D P) (xw_ty P) [.ref (xw_a P 100)] (σ, τ) none (σ, xm_begin (xw_n P) (xw_w P) τ) := by
  refine xf_start (own := xnR_MO) [some (.ref (xw_a P 100)), none, none] rfl (by decide) (Nat.le_of_ble_eq_true rfl) rfl (xf_cat rfl) ?_
  intro X hX hE
  have hw := ho.2
  have hs2 := xm_lb_2 (xw_w P) τ (τ.1 6)
  have hs1 : ∀ k, k ≠ 17 → (xm_lb (xw_w P) τ (τ.1 6)).1 k = τ.1 k := fun k hk => xm_lb_1 (xw_w P) τ (τ.1 6) hk
  have hwh := ho.whe (τ.1 6)
  have hfv := ho.fnd (τ.1 6)
  have hfe : (if xm_whe (xw_w P) τ (τ.1 6) < 0 then -1 else τ.2 1 (xm_whe (xw_w P) τ (τ.1 6)).toNatClampNeg - 1) = (xm_fnd (xw_w P) τ (τ.1 6)) := rfl
  have hFin : xm_way (xw_n P) (xw_w P) (if (xm_fnd (xw_w P) τ (τ.1 6)) < 0 then xf_I (xm_lb (xw_w P) τ (τ.1 6)) 10 (xm_fnd (xw_w P) τ (τ.1 6)) else if xm_over τ (τ.2 6 (xm_fnd (xw_w P) τ (τ.1 6)).toNatClampNeg) = 0 then xf_I (xm_lb (xw_w P) τ (τ.1 6)) 10 (xm_fnd (xw_w P) τ (τ.1 6)) else xf_I (xf_I (xm_rem (xw_w P) (xf_I (xm_lb (xw_w P) τ (τ.1 6)) 10 (xm_fnd (xw_w P) τ (τ.1 6))) (xm_fnd (xw_w P) τ (τ.1 6))) 18 ((xm_rem (xw_w P) (xf_I (xm_lb (xw_w P) τ (τ.1 6)) 10 (xm_fnd (xw_w P) τ (τ.1 6))) (xm_fnd (xw_w P) τ (τ.1 6))).1 18 + 1)) 10 (-1)) = xm_begin (xw_n P) (xw_w P) τ := rfl
  generalize hs : (xm_lb (xw_w P) τ (τ.1 6)) = τ' at hs2 hs1 hFin
  generalize hF : xm_whe (xw_w P) τ (τ.1 6) = F at hwh hfe
  generalize (xm_fnd (xw_w P) τ (τ.1 6)) = f0 at hfv hfe hFin
  generalize xm_begin (xw_n P) (xw_w P) τ = FIN at hE hFin
  have hFi : 0 ≤ F → vp_in F 32 := by
    intro h9
    rcases hwh with g | ⟨q, g1, g2⟩
    · rw [g] at h9; exact absurd h9 (by decide)
    · exact xs_in g2 (by omega) (by omega)
  have hov : ∀ e, xm_over (xf_I τ' 10 f0) e = xm_over τ e := by
    intro e
    unfold xm_over
    rw [show (xf_I τ' 10 f0).1 0 = τ'.1 0 from rfl, hs1 0 (by decide)]
  have hol : xm_okP (xw_n P) (xw_w P) (xf_I τ' 10 f0) := ho.cg (by rw [xs_I2, hs2])
  have hkd9 : τ'.1 5 = 0 ∨ τ'.1 5 = 1 ∨ τ'.1 5 = 2 ∨ τ'.1 5 = 3 ∨ τ'.1 5 = 4 := by rw [hs1 5 (by decide)]; exact hkd
  have K : ∀ f, f = f0 → xf_V X 26 [some (.ref (xw_a P 100)), some (.int F), none] [.int f, .ref (xw_a P 100)] (σ, τ') := by
    intro f hf0
    subst hf0
    refine xp_MO_target hX 29 rfl xk_MO_123 xnd_MO_begin_26 ?_
    refine xf_aload_n hX 30 rfl 0 xnd_MO_begin_29 rfl rfl ?_
    refine xg_MO_target hX 33 rfl xk_MO_123 xnd_MO_begin_30 ?_
    change xf_V X 33 _ [.int f] _
    refine xf_if_lt hX 36 rfl 75 xnd_MO_begin_33 (by decide) (fun h33 => ?_) (fun h33 => ?_)
    · exact xm_cway P σ (xf_I τ' 10 f) _ hX (by rw [← hFin, if_pos h33]) hkd9 hol (fun h9 => absurd h33 h9) hE _
    · refine xf_aload_n hX 37 rfl 0 xnd_MO_begin_36 rfl rfl ?_
      refine xf_aload_n hX 38 rfl 0 xnd_MO_begin_37 rfl rfl ?_
      refine xg_MO_ends hX 41 rfl xk_MO_26 xnd_MO_begin_38 ?_
      refine xf_aload_n hX 42 rfl 0 xnd_MO_begin_41 rfl rfl ?_
      refine xg_MO_target hX 45 rfl xk_MO_123 xnd_MO_begin_42 ?_
      change xf_V X 45 _ (.int f :: _) _
      have hi : vp_in f 32 := hfv.resolve_left h33
      refine xaM_iaload hX 46 rfl rfl hi xnd_MO_begin_45 ?_
      rw [xs_I2, hs2]
      refine xf_V1i hX 49 rfl (xm_cover P _ _ _) xq_MO_over xk_MO_151 xrM_MO rfl rfl xnd_MO_begin_46 ?_
      rw [hov]
      refine xf_if_eq hX 52 rfl 75 xnd_MO_begin_49 (by decide) (fun h49 => ?_) (fun h49 => ?_)
      · exact xm_cway P σ (xf_I τ' 10 f) _ hX (by rw [← hFin, if_neg h33, if_pos h49]) hkd9 hol (fun _ => hi) hE _
      · refine xf_aload_n hX 53 rfl 0 xnd_MO_begin_52 rfl rfl ?_
        refine xf_aload_n hX 54 rfl 0 xnd_MO_begin_53 rfl rfl ?_
        refine xg_MO_target hX 57 rfl xk_MO_123 xnd_MO_begin_54 ?_
        change xf_V X 57 _ (.int f :: _) _
        refine xf_V1v hX 60 rfl (xm_crem P _ _ _ hol hi) xq_MO_remove xk_MO_155 xrM_MO rfl rfl xnd_MO_begin_57 ?_
        refine xf_aload_n hX 61 rfl 0 xnd_MO_begin_60 rfl rfl ?_
        refine xf_dup hX 62 rfl xnd_MO_begin_61 rfl ?_
        refine xg_MO_dead hX 65 rfl xk_MO_158 xnd_MO_begin_62 ?_
        refine xf_iconst hX 66 rfl (1) xnd_MO_begin_65 (by decide) ?_
        refine xf_iadd hX 67 rfl xnd_MO_begin_66 ?_
        refine xp_MO_dead hX 70 rfl xk_MO_158 xnd_MO_begin_67 ?_
        refine xf_aload_n hX 71 rfl 0 xnd_MO_begin_70 rfl rfl ?_
        refine xf_iconst hX 72 rfl (-1) xnd_MO_begin_71 (by decide) ?_
        refine xp_MO_target hX 75 rfl xk_MO_123 xnd_MO_begin_72 ?_
        exact xm_cway P σ (xf_I (xf_I (xm_rem (xw_w P) (xf_I τ' 10 f) f) 18 ((xm_rem (xw_w P) (xf_I τ' 10 f) f).1 18 + 1)) 10 (-1)) _ hX (by rw [← hFin, if_neg h33, if_neg h49]) hkd9 (xm_okP.rem hol hi) (fun h9 => absurd (show (-1 : Int32) < 0 by decide) h9) hE _
  refine xf_aload_n hX 1 rfl 0 xnd_MO_begin_0 rfl rfl ?_
  refine xf_aload_n hX 2 rfl 0 xnd_MO_begin_1 rfl rfl ?_
  refine xg_MO_key hX 5 rfl xk_MO_105 xnd_MO_begin_2 ?_
  refine xf_V1i hX 8 rfl (xm_clb P _ _ _ ho) xq_MO_lookBoth xk_MO_148 xrM_MO rfl rfl xnd_MO_begin_5 ?_
  rw [hs, hF]
  refine xf_istore_n hX 9 rfl 1 xnd_MO_begin_8 rfl (by decide) ?_
  dsimp only [List.set]
  refine xf_aload_n hX 10 rfl 0 xnd_MO_begin_9 rfl rfl ?_
  refine xf_iload_n hX 11 rfl 1 xnd_MO_begin_10 rfl rfl ?_
  refine xf_if_ge hX 14 rfl 18 xnd_MO_begin_11 (by decide) (fun h11 => ?_) (fun h11 => ?_)
  · refine xf_aload_n hX 19 rfl 0 xnd_MO_begin_18 rfl rfl ?_
    refine xg_MO_held hX 22 rfl xk_MO_7 xnd_MO_begin_19 ?_
    refine xf_iload_n hX 23 rfl 1 xnd_MO_begin_22 rfl rfl ?_
    refine xaM_iaload hX 24 rfl rfl (hFi h11) xnd_MO_begin_23 ?_
    rw [hs2]
    refine xf_iconst hX 25 rfl (1) xnd_MO_begin_24 (by decide) ?_
    refine xf_isub hX 26 rfl xnd_MO_begin_25 ?_
    exact K _ (by rw [← hfe, if_neg (by rw [Int32.not_lt]; exact h11)])
  · refine xf_iconst hX 15 rfl (-1) xnd_MO_begin_14 (by decide) ?_
    refine xf_goto hX 26 xnd_MO_begin_15 (by decide) ?_
    exact K _ (by rw [← hfe, if_pos (by rw [← Int32.not_le]; exact h11)])

set_option maxRecDepth 100000 in
set_option maxHeartbeats 4000000 in
theorem xm_cevict (P : xw_T) (σ τ : xf_T) (ho : xm_okP (xw_n P) (xw_w P) τ) (hh : xm_okH (xw_n P) τ) : xf_F (xw_l P) xny_MO_evict xnc_MO_evict 2 none 3 62 (xw_W P) (xw_D P) (xw_ty P) [.ref (xw_a P 100)] (σ, τ) none (σ, xm_evict (xw_n P) (xw_w P) τ) := by
  refine xf_start (own := xnR_MO) [some (.ref (xw_a P 100)), none] rfl (by decide) (Nat.le_of_ble_eq_true rfl) rfl (xf_cat rfl) ?_
  intro X hX hE
  have hw := ho.2
  have hFin : xf_I (xf_I (xm_ev1 (xw_n P) (xw_w P) τ) 13 ((xm_ev1 (xw_n P) (xw_w P) τ).1 13 + 1)) 3 5 = xm_evict (xw_n P) (xw_w P) τ := rfl
  rw [← hFin] at hE
  have hEv : xm_ev1 (xw_n P) (xw_w P) τ = xm_turn (xw_n P) (xm_rem (xw_w P) (xm_evl (xw_n P) ((xw_n P) + 1) τ) ((xm_evl (xw_n P) ((xw_n P) + 1) τ).1 1)) := rfl
  rw [hEv] at hE
  have hoE : xm_okP (xw_n P) (xw_w P) (xm_evl (xw_n P) ((xw_n P) + 1) τ) := xm_okP.evl _ _ ho
  have hhE : xm_okH (xw_n P) (xm_evl (xw_n P) ((xw_n P) + 1) τ) := xm_okH.evl (by omega) (by omega) _ _ hh
  generalize hE1 : xm_evl (xw_n P) ((xw_n P) + 1) τ = E1 at hE hoE hhE
  have K : ∀ x, xf_V X 53 [some (.ref (xw_a P 100)), x] [] (σ, E1) := by
    intro x
    refine xf_aload_n hX 54 rfl 0 xnd_MO_evict_53 rfl rfl ?_
    refine xf_aload_n hX 55 rfl 0 xnd_MO_evict_54 rfl rfl ?_
    refine xg_MO_hand hX 58 rfl xk_MO_165 xnd_MO_evict_55 ?_
    refine xf_V1v hX 61 rfl (xm_crem P _ _ _ hoE (hhE.in (by omega))) xq_MO_remove xk_MO_155 xrM_MO rfl rfl xnd_MO_evict_58 ?_
    refine xf_aload_n hX 62 rfl 0 xnd_MO_evict_61 rfl rfl ?_
    refine xf_aload_n hX 63 rfl 0 xnd_MO_evict_62 rfl rfl ?_
    refine xg_MO_hand hX 66 rfl xk_MO_165 xnd_MO_evict_63 ?_
    refine xf_iconst hX 67 rfl (1) xnd_MO_evict_66 (by decide) ?_
    refine xf_iadd hX 68 rfl xnd_MO_evict_67 ?_
    refine xf_aload_n hX 69 rfl 0 xnd_MO_evict_68 rfl rfl ?_
    refine xg_MO_items hX 72 rfl xk_MO_66 xnd_MO_evict_69 ?_
    refine xf_irem hX 73 rfl xnd_MO_evict_72 (nI_ne0 (by omega) (by omega)) ?_
    refine xp_MO_hand hX 76 rfl xk_MO_165 xnd_MO_evict_73 ?_
    refine xf_aload_n hX 77 rfl 0 xnd_MO_evict_76 rfl rfl ?_
    refine xf_dup hX 78 rfl xnd_MO_evict_77 rfl ?_
    refine xg_MO_evictions hX 81 rfl xk_MO_168 xnd_MO_evict_78 ?_
    refine xf_iconst hX 82 rfl (1) xnd_MO_evict_81 (by decide) ?_
    refine xf_iadd hX 83 rfl xnd_MO_evict_82 ?_
    refine xp_MO_evictions hX 86 rfl xk_MO_168 xnd_MO_evict_83 ?_
    refine xf_aload_n hX 87 rfl 0 xnd_MO_evict_86 rfl rfl ?_
    refine xf_iconst hX 88 rfl (5) xnd_MO_evict_87 (by decide) ?_
    refine xp_MO_next hX 91 rfl xk_MO_99 xnd_MO_evict_88 ?_
    refine xf_vret hX hE xnd_MO_evict_91 ?_
    exact ⟨rfl, rfl⟩
  have loop : ∀ r k s, r + k = (xw_n P) + 1 → xm_okP (xw_n P) (xw_w P) s → xm_okH (xw_n P) s → xm_evl (xw_n P) r s = E1 → xf_V X 2 [some (.ref (xw_a P 100)), some (.int (nI k))] [] (σ, s) := by
    intro r
    induction r with
    | zero =>
      intro k s hk hos hhs hR
      refine xf_iload_n hX 3 rfl 1 xnd_MO_evict_2 rfl rfl ?_
      refine xf_aload_n hX 4 rfl 0 xnd_MO_evict_3 rfl rfl ?_
      refine xg_MO_items hX 7 rfl xk_MO_66 xnd_MO_evict_4 ?_
      refine xf_icmp_gt hX 10 rfl 53 xnd_MO_evict_7 (by decide) (fun _ => ?_) (fun h7 => absurd (nI_lt (by omega) (by omega)) h7)
      rw [show s = E1 from hR]
      exact K _
    | succ r ih =>
      intro k s hk hos hhs hR
      refine xf_iload_n hX 3 rfl 1 xnd_MO_evict_2 rfl rfl ?_
      refine xf_aload_n hX 4 rfl 0 xnd_MO_evict_3 rfl rfl ?_
      refine xg_MO_items hX 7 rfl xk_MO_66 xnd_MO_evict_4 ?_
      refine xf_icmp_gt hX 10 rfl 53 xnd_MO_evict_7 (by decide) (fun h7 => absurd h7 (nI_nlt (by omega) (by omega))) (fun _ => ?_)
      refine xf_aload_n hX 11 rfl 0 xnd_MO_evict_10 rfl rfl ?_
      refine xg_MO_bits hX 14 rfl xk_MO_29 xnd_MO_evict_11 ?_
      refine xf_aload_n hX 15 rfl 0 xnd_MO_evict_14 rfl rfl ?_
      refine xg_MO_hand hX 18 rfl xk_MO_165 xnd_MO_evict_15 ?_
      refine xaM_baload hX 19 rfl rfl (hhs.in (by omega)) xnd_MO_evict_18 ?_
      refine xf_if_eq hX 22 rfl 53 xnd_MO_evict_19 (by decide) (fun h19 => ?_) (fun h19 => ?_)
      · rw [xm_evl, if_pos h19] at hR
        rw [hR]
        exact K _
      · refine xf_aload_n hX 23 rfl 0 xnd_MO_evict_22 rfl rfl ?_
        refine xg_MO_bits hX 26 rfl xk_MO_29 xnd_MO_evict_23 ?_
        refine xf_aload_n hX 27 rfl 0 xnd_MO_evict_26 rfl rfl ?_
        refine xg_MO_hand hX 30 rfl xk_MO_165 xnd_MO_evict_27 ?_
        refine xf_iconst hX 31 rfl (0) xnd_MO_evict_30 (by decide) ?_
        refine xaM_bastore hX 32 rfl rfl (hhs.in (by omega)) rfl xnd_MO_evict_31 ?_
        refine xf_aload_n hX 33 rfl 0 xnd_MO_evict_32 rfl rfl ?_
        refine xf_aload_n hX 34 rfl 0 xnd_MO_evict_33 rfl rfl ?_
        refine xg_MO_hand hX 37 rfl xk_MO_165 xnd_MO_evict_34 ?_
        refine xf_iconst hX 38 rfl (1) xnd_MO_evict_37 (by decide) ?_
        refine xf_iadd hX 39 rfl xnd_MO_evict_38 ?_
        refine xf_aload_n hX 40 rfl 0 xnd_MO_evict_39 rfl rfl ?_
        refine xg_MO_items hX 43 rfl xk_MO_66 xnd_MO_evict_40 ?_
        refine xf_irem hX 44 rfl xnd_MO_evict_43 (nI_ne0 (by omega) (by omega)) ?_
        refine xp_MO_hand hX 47 rfl xk_MO_165 xnd_MO_evict_44 ?_
        refine xf_iinc hX 50 rfl (nI (k + 1)) xnd_MO_evict_47 rfl (by rw [nI_succ]; rfl) (by decide) ?_
        dsimp only [List.set]
        refine xf_goto hX 2 xnd_MO_evict_50 (by decide) ?_
        rw [xm_evl, if_neg h19] at hR
        exact ih (k + 1) _ (by omega) hos (xm_okH.turn (τ := xf_A s 7 (s.1 1).toNatClampNeg 0) hhs (by omega) (by omega)) hR
  refine xf_iconst hX 1 rfl (0) xnd_MO_evict_0 (by decide) ?_
  refine xf_istore_n hX 2 rfl 1 xnd_MO_evict_1 rfl (by decide) ?_
  dsimp only [List.set]
  exact loop ((xw_n P) + 1) 0 τ (by omega) ho hh hE1

