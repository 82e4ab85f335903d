/-! Contracts of the reference: readers and face. Laid by wip/gen/model5.py. -/
def xm_rd (r : Int32) : Int32 := if r < 0 then 0 else if 2 < r then 0 else 1
def xm_rdg (τ : xf_T) (r : Int32) : Int32 := if xm_rd r = 0 then 0 else if τ.2 10 r.toNatClampNeg < 1 then 0 else if 6 < τ.2 10 r.toNatClampNeg then 0 else 1
def xm_getB (τ : xf_T) (r : Int32) : Int32 := if xm_rd r = 0 then 0 else if xm_rdg τ r = 0 then 1 else 0
def xm_get (τ : xf_T) (r key : Int32) : xf_T := if xm_getB τ r = 0 then τ else xf_A (xf_A (xf_A τ 11 r.toNatClampNeg key) 13 r.toNatClampNeg 0) 10 r.toNatClampNeg 1
def xm_stp (w : Nat) (τ : xf_T) (r : Int32) : xf_T := if xm_rdg τ r = 0 then τ else xm_step w τ r.toNatClampNeg
def xm_stpV (w : Nat) (τ : xf_T) (r : Int32) : Int32 := if xm_rdg τ r = 0 then -1 else (xm_step w τ r.toNatClampNeg).2 10 r.toNatClampNeg
def xm_sta (τ : xf_T) (r : Int32) : Int32 := if xm_rd r = 0 then -1 else τ.2 10 r.toNatClampNeg
def xm_val (τ : xf_T) (r : Int32) (k : Nat) : Int32 := if xm_rd r = 0 then 0 else if τ.2 10 r.toNatClampNeg = 7 then τ.2 k r.toNatClampNeg else 0
def xm_passB (k : Int32) : Int32 := if k < 1 then 0 else if k ≤ 1000 then 1 else 0
def xm_pass (τ : xf_T) (k : Int32) : xf_T := if k < 1 then τ else if k ≤ 1000 then xf_I τ 0 (τ.1 0 + k) else τ
def xm_atp (w : Nat) (τ : xf_T) (p : Int32) : Int32 := if p < 0 then -1 else if nI (8 * w) ≤ p then -1 else τ.2 1 p.toNatClampNeg - 1
def xm_used (n : Nat) (τ : xf_T) (i : Int32) : Int32 := if i < 0 then 0 else if nI n ≤ i then 0 else if τ.2 2 i.toNatClampNeg = 0 then 0 else 1
def xm_item (n : Nat) (τ : xf_T) (i k : Int32) : Int32 := if xm_used n τ i = 0 then 0 else if k = 0 then τ.2 3 i.toNatClampNeg else if k = 1 then τ.2 4 i.toNatClampNeg else if k = 2 then τ.2 5 i.toNatClampNeg else if k = 3 then τ.2 6 i.toNatClampNeg else if k = 4 then (if τ.2 7 i.toNatClampNeg = 0 then 0 else 1) else 0
def xm_ver (τ : xf_T) (k : Int32) : Int32 := if k < 0 then -1 else if 3 < k then -1 else τ.2 8 k.toNatClampNeg
def xm_count (n : Nat) (τ : xf_T) (k : Int32) : Int32 := if k = 0 then xm_mny (τ.2 2) n else if k = 1 then τ.1 13 else if k = 2 then τ.1 14 else if k = 3 then τ.1 15 else if k = 4 then τ.1 16 else if k = 5 then τ.1 17 else if k = 6 then τ.1 18 else if k = 7 then τ.1 0 else if k = 8 then τ.1 1 else if k = 9 then τ.1 2 else -1
theorem xm_10 : ((1 : Int32) = 0) = False := eq_false (by decide)
theorem xm_lim {x : Int32} {N : Nat} (hN : N < 2 ^ 31) (h0 : ¬ x < 0) (h1 : ¬ nI N ≤ x) : vp_in x N := by
  obtain ⟨j, hj, rfl⟩ := nI_of h0
  rw [nI_leI hN hj] at h1
  exact vp_in_nI (by omega) hN
theorem xm_rd_in {r : Int32} (h : ¬ xm_rd r = 0) : vp_in r 3 ∧ ∃ q, q < 3 ∧ r = nI q := by
  unfold xm_rd at h
  by_cases h1 : r < 0
  · rw [if_pos h1] at h; exact absurd rfl h
  · rw [if_neg h1] at h
    by_cases h2 : 2 < r
    · rw [if_pos h2] at h; exact absurd rfl h
    · obtain ⟨j, hj, rfl⟩ := nI_of h1
      have : j ≤ 2 := by
        rw [show (2 : Int32) = nI 2 from rfl, nI_ltI (by omega) hj] at h2
        omega
      exact ⟨vp_in_nI (by omega) (by omega), j, by omega, rfl⟩
theorem xm_rdg_rd {τ : xf_T} {r : Int32} (h : ¬ xm_rdg τ r = 0) : ¬ xm_rd r = 0 := by
  unfold xm_rdg at h
  intro h1
  rw [if_pos h1] at h
  exact h rfl
set_option maxRecDepth 100000 in
set_option maxHeartbeats 4000000 in
theorem xm_crd (P : xw_T) (σ τ : xf_T) (r : Int32) : xf_F (xw_l P) xny_MO_reader xnc_MO_reader 1 (some .boolean) 0 0 (xw_W P) (xw_D P) (xw_ty P) [.int r] (σ, τ) (some (.int (xm_rd r))) (σ, τ) := by
  refine xf_start (own := xnR_MO) [some (.int r)] rfl (by decide) (Nat.le_of_ble_eq_true rfl) rfl (xf_cat rfl) ?_
  intro X hX hE
  refine xf_iload_n hX 1 rfl 0 xnd_MO_reader_0 rfl rfl ?_
  refine xf_if_lt hX 4 rfl 13 xnd_MO_reader_1 (by decide) (fun h1 => ?_) (fun h1 => ?_)
  · refine xf_iconst hX 14 rfl (0) xnd_MO_reader_13 (by decide) ?_
    refine xf_zret hX hE xnd_MO_reader_14 rfl ?_
    refine ⟨?_, rfl⟩
    simp only [xm_rd, h1, if_true, if_false]
  · refine xf_iload_n hX 5 rfl 0 xnd_MO_reader_4 rfl rfl ?_
    refine xf_iconst hX 6 rfl (2) xnd_MO_reader_5 (by decide) ?_
    refine xf_icmp_gt hX 9 rfl 13 xnd_MO_reader_6 (by decide) (fun h6 => ?_) (fun h6 => ?_)
    · refine xf_iconst hX 14 rfl (0) xnd_MO_reader_13 (by decide) ?_
      refine xf_zret hX hE xnd_MO_reader_14 rfl ?_
      refine ⟨?_, rfl⟩
      simp only [xm_rd, h1, h6, if_true, if_false]
    · refine xf_iconst hX 10 rfl (1) xnd_MO_reader_9 (by decide) ?_
      refine xf_goto hX 14 xnd_MO_reader_10 (by decide) ?_
      refine xf_zret hX hE xnd_MO_reader_14 rfl ?_
      refine ⟨?_, rfl⟩
      simp only [xm_rd, h1, h6, if_true, if_false]

set_option maxRecDepth 100000 in
set_option maxHeartbeats 4000000 in
theorem xm_crdg (P : xw_T) (σ τ : xf_T) (r : Int32) : xf_F (xw_l P) xny_MO_reading xnc_MO_reading 2 (some .boolean) 1 20 (xw_W P) (xw_D P) (xw_ty P) [.ref (xw_a P 100), .int r] (σ, τ) (some (.int (xm_rdg τ r))) (σ, τ) := by
  refine xf_start (own := xnR_MO) [some (.ref (xw_a P 100)), some (.int r)] rfl (by decide) (Nat.le_of_ble_eq_true rfl) rfl (xf_cat rfl) ?_
  intro X hX hE
  refine xf_iload_n hX 1 rfl 1 xnd_MO_reading_0 rfl rfl ?_
  refine xf_S1i hX 4 rfl (xm_crd P _ _ _) xq_MO_reader xk_MO_184 rfl rfl xnd_MO_reading_1 ?_
  refine xf_if_eq hX 7 rfl 32 xnd_MO_reading_4 (by decide) (fun h4 => ?_) (fun h4 => ?_)
  · refine xf_iconst hX 33 rfl (0) xnd_MO_reading_32 (by decide) ?_
    refine xf_zret hX hE xnd_MO_reading_33 rfl ?_
    refine ⟨?_, rfl⟩
    simp only [xm_rdg, eq_true h4, if_true, if_false]
  · refine xf_aload_n hX 8 rfl 0 xnd_MO_reading_7 rfl rfl ?_
    refine xg_MO_states hX 11 rfl xk_MO_42 xnd_MO_reading_8 ?_
    refine xf_iload_n hX 12 rfl 1 xnd_MO_reading_11 rfl rfl ?_
    refine xaM_iaload hX 13 rfl rfl (xm_rd_in h4).1 xnd_MO_reading_12 ?_
    refine xf_iconst hX 14 rfl (1) xnd_MO_reading_13 (by decide) ?_
    refine xf_icmp_lt hX 17 rfl 32 xnd_MO_reading_14 (by decide) (fun h14 => ?_) (fun h14 => ?_)
    · refine xf_iconst hX 33 rfl (0) xnd_MO_reading_32 (by decide) ?_
      refine xf_zret hX hE xnd_MO_reading_33 rfl ?_
      refine ⟨?_, rfl⟩
      simp only [xm_rdg, h4, h14, if_true, if_false]
    · refine xf_aload_n hX 18 rfl 0 xnd_MO_reading_17 rfl rfl ?_
      refine xg_MO_states hX 21 rfl xk_MO_42 xnd_MO_reading_18 ?_
      refine xf_iload_n hX 22 rfl 1 xnd_MO_reading_21 rfl rfl ?_
      refine xaM_iaload hX 23 rfl rfl (xm_rd_in h4).1 xnd_MO_reading_22 ?_
      refine xf_bipush hX 25 rfl (6) xnd_MO_reading_23 (by decide) ?_
      refine xf_icmp_gt hX 28 rfl 32 xnd_MO_reading_25 (by decide) (fun h25 => ?_) (fun h25 => ?_)
      · refine xf_iconst hX 33 rfl (0) xnd_MO_reading_32 (by decide) ?_
        refine xf_zret hX hE xnd_MO_reading_33 rfl ?_
        refine ⟨?_, rfl⟩
        simp only [xm_rdg, h4, h14, h25, if_true, if_false]
      · refine xf_iconst hX 29 rfl (1) xnd_MO_reading_28 (by decide) ?_
        refine xf_goto hX 33 xnd_MO_reading_29 (by decide) ?_
        refine xf_zret hX hE xnd_MO_reading_33 rfl ?_
        refine ⟨?_, rfl⟩
        simp only [xm_rdg, h4, h14, h25, if_true, if_false]

set_option maxRecDepth 100000 in
set_option maxHeartbeats 4000000 in
theorem xm_cget (P : xw_T) (σ τ : xf_T) (r key : Int32) : xf_F (xw_l P) xny_MO_get xnc_MO_get 3 (some .boolean) 2 41 (xw_W P) (xw_D P) (xw_ty P) [.ref (xw_a P 100), .int r, .int key] (σ, τ) (some (.int (xm_getB τ r))) (σ, xm_get τ r key) := by
  refine xf_start (own := xnR_MO) [some (.ref (xw_a P 100)), some (.int r), some (.int key)] rfl (by decide) (Nat.le_of_ble_eq_true rfl) rfl (xf_cat rfl) ?_
  intro X hX hE
  refine xf_iload_n hX 1 rfl 1 xnd_MO_get_0 rfl rfl ?_
  refine xf_S1i hX 4 rfl (xm_crd P _ _ _) xq_MO_reader xk_MO_184 rfl rfl xnd_MO_get_1 ?_
  refine xf_if_eq hX 7 rfl 15 xnd_MO_get_4 (by decide) (fun h4 => ?_) (fun h4 => ?_)
  · refine xf_iconst hX 16 rfl (0) xnd_MO_get_15 (by decide) ?_
    refine xf_zret hX hE xnd_MO_get_16 rfl ?_
    have e9 : xm_getB τ r = 0 := by simp only [xm_getB, eq_true h4, if_true, if_false]
    exact ⟨by rw [e9], by unfold xm_get; rw [if_pos e9]⟩
  · refine xf_aload_n hX 8 rfl 0 xnd_MO_get_7 rfl rfl ?_
    refine xf_iload_n hX 9 rfl 1 xnd_MO_get_8 rfl rfl ?_
    refine xf_V1i hX 12 rfl (xm_crdg P _ _ _) xq_MO_reading xk_MO_187 xrM_MO rfl rfl xnd_MO_get_9 ?_
    refine xf_if_eq hX 15 rfl 17 xnd_MO_get_12 (by decide) (fun h12 => ?_) (fun h12 => ?_)
    · refine xf_aload_n hX 18 rfl 0 xnd_MO_get_17 rfl rfl ?_
      refine xg_MO_sought hX 21 rfl xk_MO_45 xnd_MO_get_18 ?_
      refine xf_iload_n hX 22 rfl 1 xnd_MO_get_21 rfl rfl ?_
      refine xf_iload_n hX 23 rfl 2 xnd_MO_get_22 rfl rfl ?_
      refine xaM_iastore hX 24 rfl rfl (xm_rd_in h4).1 xnd_MO_get_23 ?_
      refine xf_aload_n hX 25 rfl 0 xnd_MO_get_24 rfl rfl ?_
      refine xg_MO_retries hX 28 rfl xk_MO_51 xnd_MO_get_25 ?_
      refine xf_iload_n hX 29 rfl 1 xnd_MO_get_28 rfl rfl ?_
      refine xf_iconst hX 30 rfl (0) xnd_MO_get_29 (by decide) ?_
      refine xaM_iastore hX 31 rfl rfl (xm_rd_in h4).1 xnd_MO_get_30 ?_
      refine xf_aload_n hX 32 rfl 0 xnd_MO_get_31 rfl rfl ?_
      refine xg_MO_states hX 35 rfl xk_MO_42 xnd_MO_get_32 ?_
      refine xf_iload_n hX 36 rfl 1 xnd_MO_get_35 rfl rfl ?_
      refine xf_iconst hX 37 rfl (1) xnd_MO_get_36 (by decide) ?_
      refine xaM_iastore hX 38 rfl rfl (xm_rd_in h4).1 xnd_MO_get_37 ?_
      refine xf_iconst hX 39 rfl (1) xnd_MO_get_38 (by decide) ?_
      refine xf_zret hX hE xnd_MO_get_39 rfl ?_
      have e9 : xm_getB τ r = 1 := by simp only [xm_getB, h4, eq_true h12, if_true, if_false]
      exact ⟨by rw [e9], by unfold xm_get; rw [e9, if_neg (by decide)]⟩
    · refine xf_iconst hX 16 rfl (0) xnd_MO_get_15 (by decide) ?_
      refine xf_zret hX hE xnd_MO_get_16 rfl ?_
      have e9 : xm_getB τ r = 0 := by simp only [xm_getB, h4, h12, if_true, if_false]
      exact ⟨by rw [e9], by unfold xm_get; rw [if_pos e9]⟩

set_option maxRecDepth 100000 in
set_option maxHeartbeats 4000000 in
theorem xm_ckeep (P : xw_T) (σ τ : xf_T) (q : Nat) (hq : q < 3) (now : Int32) : xf_F (xw_l P) xny_MO_keep xnc_MO_keep 3 none 0 0 (xw_W P) (xw_D P) (xw_ty P) [.ref (xw_a P 100), .int (nI q), .int now] (σ, τ) none (σ, xm_keep τ q now) := by
  refine xf_start (own := xnR_MO) [some (.ref (xw_a P 100)), some (.int (nI q)), some (.int now)] rfl (by decide) (Nat.le_of_ble_eq_true rfl) rfl (xf_cat rfl) ?_
  intro X hX hE
  have ecl : (nI q).toNatClampNeg = q := nI_clamp (by omega)
  refine xf_iload_n hX 1 rfl 2 xnd_MO_keep_0 rfl rfl ?_
  refine xf_iconst hX 2 rfl (2) xnd_MO_keep_1 (by decide) ?_
  refine xf_irem hX 3 rfl xnd_MO_keep_2 (by decide) ?_
  change xf_V X 3 _ [.int (xs_rem now 2)] _
  refine xf_if_eq hX 6 rfl 17 xnd_MO_keep_3 (by decide) (fun h3 => ?_) (fun h3 => ?_)
  · refine xf_aload_n hX 18 rfl 0 xnd_MO_keep_17 rfl rfl ?_
    refine xg_MO_kept hX 21 rfl xk_MO_48 xnd_MO_keep_18 ?_
    refine xf_iload_n hX 22 rfl 1 xnd_MO_keep_21 rfl rfl ?_
    refine xf_iload_n hX 23 rfl 2 xnd_MO_keep_22 rfl rfl ?_
    refine xaM_iastore hX 24 rfl rfl (show vp_in _ 3 from vp_in_nI hq (by omega)) xnd_MO_keep_23 ?_
    refine xf_aload_n hX 25 rfl 0 xnd_MO_keep_24 rfl rfl ?_
    refine xg_MO_states hX 28 rfl xk_MO_42 xnd_MO_keep_25 ?_
    refine xf_iload_n hX 29 rfl 1 xnd_MO_keep_28 rfl rfl ?_
    refine xf_iconst hX 30 rfl (2) xnd_MO_keep_29 (by decide) ?_
    refine xaM_iastore hX 31 rfl rfl (show vp_in _ 3 from vp_in_nI hq (by omega)) xnd_MO_keep_30 ?_
    refine xf_vret hX hE xnd_MO_keep_31 ?_
    refine ⟨rfl, ?_⟩
    simp only [xm_keep, ecl, eq_true h3, if_true, if_false]
    try rfl
  · refine xf_aload_n hX 7 rfl 0 xnd_MO_keep_6 rfl rfl ?_
    refine xf_dup hX 8 rfl xnd_MO_keep_7 rfl ?_
    refine xg_MO_waits hX 11 rfl xk_MO_206 xnd_MO_keep_8 ?_
    refine xf_iconst hX 12 rfl (1) xnd_MO_keep_11 (by decide) ?_
    refine xf_iadd hX 13 rfl xnd_MO_keep_12 ?_
    refine xp_MO_waits hX 16 rfl xk_MO_206 xnd_MO_keep_13 ?_
    refine xf_vret hX hE xnd_MO_keep_16 ?_
    refine ⟨rfl, ?_⟩
    simp only [xm_keep, ecl, h3, if_true, if_false]
    try rfl

set_option maxRecDepth 100000 in
set_option maxHeartbeats 4000000 in
theorem xm_cfind (P : xw_T) (σ τ : xf_T) (q : Nat) (hq : q < 3) (s : Int32) (ho : xm_okP (xw_n P) (xw_w P) τ) : xf_F (xw_l P) xny_MO_find xnc_MO_find 4 none 5 113 (xw_W P) (xw_D P) (xw_ty P) [.ref (xw_a P 100), .int (nI q), .int s] (σ, τ) none (σ, xm_find (xw_w P) τ q s) := by
  refine xf_start (own := xnR_MO) [some (.ref (xw_a P 100)), some (.int (nI q)), some (.int s), none] rfl (by decide) (Nat.le_of_ble_eq_true rfl) rfl (xf_cat rfl) ?_
  intro X hX hE
  have ecl : (nI q).toNatClampNeg = q := nI_clamp (by omega)
  have hw := ho.2
  have hsi : 0 ≤ xm_sea (xw_w P) τ (τ.2 11 q) (s - 2) → vp_in (xm_sea (xw_w P) τ (τ.2 11 q) (s - 2)) 32 := by
    intro h9
    obtain ⟨j, hj, e⟩ := xm_bk_is (τ.2 11 q) (s - 2)
    have h8 := xr_bkb (w := xw_w P) hj
    unfold xm_sea at h9 ⊢
    rw [e, nI_clamp (by omega)] at h9 ⊢
    rcases xm_si_is (τ.2 1) (τ.2 3) (τ.2 11 q) (xw_w P) (xw_w P * j) with g | ⟨p, g1, g2, g3⟩
    · rw [g] at h9; exact absurd h9 (by decide)
    · rw [g3]; exact vp_in_nI (by omega) (by omega)
  have hlt : ∀ {y : Int32}, (y < 0) = (¬ 0 ≤ y) := fun {y} => by rw [Int32.not_le]
  refine xf_aload_n hX 1 rfl 0 xnd_MO_find_0 rfl rfl ?_
  refine xf_aload_n hX 2 rfl 0 xnd_MO_find_1 rfl rfl ?_
  refine xg_MO_sought hX 5 rfl xk_MO_45 xnd_MO_find_2 ?_
  refine xf_iload_n hX 6 rfl 1 xnd_MO_find_5 rfl rfl ?_
  refine xaM_iaload hX 7 rfl rfl (show vp_in _ 3 from vp_in_nI hq (by omega)) xnd_MO_find_6 ?_
  rw [ecl]
  refine xf_iload_n hX 8 rfl 2 xnd_MO_find_7 rfl rfl ?_
  refine xf_iconst hX 9 rfl (2) xnd_MO_find_8 (by decide) ?_
  refine xf_isub hX 10 rfl xnd_MO_find_9 ?_
  refine xf_V2i hX 13 rfl (xm_clook P _ _ _ _ ho) xq_MO_look xk_MO_93 xrM_MO rfl rfl xnd_MO_find_10 ?_
  refine xf_istore_n hX 14 rfl 3 xnd_MO_find_13 rfl (by decide) ?_
  dsimp only [List.set]
  refine xf_aload_n hX 15 rfl 0 xnd_MO_find_14 rfl rfl ?_
  refine xg_MO_got hX 18 rfl xk_MO_54 xnd_MO_find_15 ?_
  refine xf_iload_n hX 19 rfl 1 xnd_MO_find_18 rfl rfl ?_
  refine xf_iload_n hX 20 rfl 3 xnd_MO_find_19 rfl rfl ?_
  refine xf_if_ge hX 23 rfl 27 xnd_MO_find_20 (by decide) (fun h20 => ?_) (fun h20 => ?_)
  · refine xf_aload_n hX 28 rfl 0 xnd_MO_find_27 rfl rfl ?_
    refine xg_MO_held hX 31 rfl xk_MO_7 xnd_MO_find_28 ?_
    refine xf_iload_n hX 32 rfl 3 xnd_MO_find_31 rfl rfl ?_
    refine xaM_iaload hX 33 rfl rfl (hsi h20) xnd_MO_find_32 ?_
    refine xaM_iastore hX 34 rfl rfl (show vp_in _ 3 from vp_in_nI hq (by omega)) xnd_MO_find_33 ?_
    rw [ecl]
    refine xf_aload_n hX 35 rfl 0 xnd_MO_find_34 rfl rfl ?_
    refine xg_MO_states hX 38 rfl xk_MO_42 xnd_MO_find_35 ?_
    refine xf_iload_n hX 39 rfl 1 xnd_MO_find_38 rfl rfl ?_
    refine xf_iload_n hX 40 rfl 3 xnd_MO_find_39 rfl rfl ?_
    refine xf_if_lt hX 43 rfl 47 xnd_MO_find_40 (by decide) (fun h40 => ?_) (fun h40 => ?_)
    · refine xf_iload_n hX 48 rfl 2 xnd_MO_find_47 rfl rfl ?_
      refine xf_iconst hX 49 rfl (2) xnd_MO_find_48 (by decide) ?_
      refine xf_icmp_ne hX 52 rfl 56 xnd_MO_find_49 (by decide) (fun h49 => ?_) (fun h49 => ?_)
      · refine xf_iconst hX 57 rfl (5) xnd_MO_find_56 (by decide) ?_
        refine xaM_iastore hX 58 rfl rfl (show vp_in _ 3 from vp_in_nI hq (by omega)) xnd_MO_find_57 ?_
        rw [ecl]
        refine xf_vret hX hE xnd_MO_find_58 ?_
        first | exact absurd h20 (by rw [Int32.not_le]; exact h40) | exact absurd (Int32.not_le.mp h20) h40 | (refine ⟨rfl, ?_⟩; simp only [xm_find, hlt, h20, h40, h49, if_true, if_false]; try rfl)
      · refine xf_iconst hX 53 rfl (3) xnd_MO_find_52 (by decide) ?_
        refine xf_goto hX 57 xnd_MO_find_53 (by decide) ?_
        refine xaM_iastore hX 58 rfl rfl (show vp_in _ 3 from vp_in_nI hq (by omega)) xnd_MO_find_57 ?_
        rw [ecl]
        refine xf_vret hX hE xnd_MO_find_58 ?_
        first | exact absurd h20 (by rw [Int32.not_le]; exact h40) | exact absurd (Int32.not_le.mp h20) h40 | (refine ⟨rfl, ?_⟩; simp only [xm_find, hlt, h20, h40, eq_true h49, if_true, if_false]; try rfl)
    · refine xf_iconst hX 44 rfl (4) xnd_MO_find_43 (by decide) ?_
      refine xf_goto hX 57 xnd_MO_find_44 (by decide) ?_
      refine xaM_iastore hX 58 rfl rfl (show vp_in _ 3 from vp_in_nI hq (by omega)) xnd_MO_find_57 ?_
      rw [ecl]
      refine xf_vret hX hE xnd_MO_find_58 ?_
      first | exact absurd h20 (by rw [Int32.not_le]; exact h40) | exact absurd (Int32.not_le.mp h20) h40 | (refine ⟨rfl, ?_⟩; simp only [xm_find, hlt, h20, h40, if_true, if_false]; try rfl)
  · refine xf_iconst hX 24 rfl (0) xnd_MO_find_23 (by decide) ?_
    refine xf_goto hX 33 xnd_MO_find_24 (by decide) ?_
    refine xaM_iastore hX 34 rfl rfl (show vp_in _ 3 from vp_in_nI hq (by omega)) xnd_MO_find_33 ?_
    rw [ecl]
    refine xf_aload_n hX 35 rfl 0 xnd_MO_find_34 rfl rfl ?_
    refine xg_MO_states hX 38 rfl xk_MO_42 xnd_MO_find_35 ?_
    refine xf_iload_n hX 39 rfl 1 xnd_MO_find_38 rfl rfl ?_
    refine xf_iload_n hX 40 rfl 3 xnd_MO_find_39 rfl rfl ?_
    refine xf_if_lt hX 43 rfl 47 xnd_MO_find_40 (by decide) (fun h40 => ?_) (fun h40 => ?_)
    · refine xf_iload_n hX 48 rfl 2 xnd_MO_find_47 rfl rfl ?_
      refine xf_iconst hX 49 rfl (2) xnd_MO_find_48 (by decide) ?_
      refine xf_icmp_ne hX 52 rfl 56 xnd_MO_find_49 (by decide) (fun h49 => ?_) (fun h49 => ?_)
      · refine xf_iconst hX 57 rfl (5) xnd_MO_find_56 (by decide) ?_
        refine xaM_iastore hX 58 rfl rfl (show vp_in _ 3 from vp_in_nI hq (by omega)) xnd_MO_find_57 ?_
        rw [ecl]
        refine xf_vret hX hE xnd_MO_find_58 ?_
        first | exact absurd h20 (by rw [Int32.not_le]; exact h40) | exact absurd (Int32.not_le.mp h20) h40 | (refine ⟨rfl, ?_⟩; simp only [xm_find, hlt, h20, h40, h49, if_true, if_false]; try rfl)
      · refine xf_iconst hX 53 rfl (3) xnd_MO_find_52 (by decide) ?_
        refine xf_goto hX 57 xnd_MO_find_53 (by decide) ?_
        refine xaM_iastore hX 58 rfl rfl (show vp_in _ 3 from vp_in_nI hq (by omega)) xnd_MO_find_57 ?_
        rw [ecl]
        refine xf_vret hX hE xnd_MO_find_58 ?_
        first | exact absurd h20 (by rw [Int32.not_le]; exact h40) | exact absurd (Int32.not_le.mp h20) h40 | (refine ⟨rfl, ?_⟩; simp only [xm_find, hlt, h20, h40, eq_true h49, if_true, if_false]; try rfl)
    · refine xf_iconst hX 44 rfl (4) xnd_MO_find_43 (by decide) ?_
      refine xf_goto hX 57 xnd_MO_find_44 (by decide) ?_
      refine xaM_iastore hX 58 rfl rfl (show vp_in _ 3 from vp_in_nI hq (by omega)) xnd_MO_find_57 ?_
      rw [ecl]
      refine xf_vret hX hE xnd_MO_find_58 ?_
      first | exact absurd h20 (by rw [Int32.not_le]; exact h40) | exact absurd (Int32.not_le.mp h20) h40 | (refine ⟨rfl, ?_⟩; simp only [xm_find, hlt, h20, h40, if_true, if_false]; try rfl)

set_option maxRecDepth 100000 in
set_option maxHeartbeats 4000000 in
theorem xm_ccopy (P : xw_T) (σ τ : xf_T) (q : Nat) (hq : q < 3) (hg : vp_in (τ.2 14 q - 1) 32) : xf_F (xw_l P) xny_MO_copy xnc_MO_copy 3 none 0 0 (xw_W P) (xw_D P) (xw_ty P) [.ref (xw_a P 100), .int (nI q)] (σ, τ) none (σ, xm_copy τ q) := by
  refine xf_start (own := xnR_MO) [some (.ref (xw_a P 100)), some (.int (nI q)), none] rfl (by decide) (Nat.le_of_ble_eq_true rfl) rfl (xf_cat rfl) ?_
  intro X hX hE
  have ecl : (nI q).toNatClampNeg = q := nI_clamp (by omega)
  refine xf_aload_n hX 1 rfl 0 xnd_MO_copy_0 rfl rfl ?_
  refine xg_MO_got hX 4 rfl xk_MO_54 xnd_MO_copy_1 ?_
  refine xf_iload_n hX 5 rfl 1 xnd_MO_copy_4 rfl rfl ?_
  refine xaM_iaload hX 6 rfl rfl (show vp_in _ 3 from vp_in_nI hq (by omega)) xnd_MO_copy_5 ?_
  rw [ecl]
  refine xf_iconst hX 7 rfl (1) xnd_MO_copy_6 (by decide) ?_
  refine xf_isub hX 8 rfl xnd_MO_copy_7 ?_
  refine xf_istore_n hX 9 rfl 2 xnd_MO_copy_8 rfl (by decide) ?_
  dsimp only [List.set]
  refine xf_aload_n hX 10 rfl 0 xnd_MO_copy_9 rfl rfl ?_
  refine xg_MO_copied hX 13 rfl xk_MO_57 xnd_MO_copy_10 ?_
  refine xf_iload_n hX 14 rfl 1 xnd_MO_copy_13 rfl rfl ?_
  refine xf_aload_n hX 15 rfl 0 xnd_MO_copy_14 rfl rfl ?_
  refine xg_MO_values hX 18 rfl xk_MO_20 xnd_MO_copy_15 ?_
  refine xf_iload_n hX 19 rfl 2 xnd_MO_copy_18 rfl rfl ?_
  refine xaM_iaload hX 20 rfl rfl hg xnd_MO_copy_19 ?_
  refine xaM_iastore hX 21 rfl rfl (show vp_in _ 3 from vp_in_nI hq (by omega)) xnd_MO_copy_20 ?_
  refine xf_aload_n hX 22 rfl 0 xnd_MO_copy_21 rfl rfl ?_
  refine xg_MO_copiedMark hX 25 rfl xk_MO_60 xnd_MO_copy_22 ?_
  refine xf_iload_n hX 26 rfl 1 xnd_MO_copy_25 rfl rfl ?_
  refine xf_aload_n hX 27 rfl 0 xnd_MO_copy_26 rfl rfl ?_
  refine xg_MO_marks hX 30 rfl xk_MO_23 xnd_MO_copy_27 ?_
  refine xf_iload_n hX 31 rfl 2 xnd_MO_copy_30 rfl rfl ?_
  refine xaM_iaload hX 32 rfl rfl hg xnd_MO_copy_31 ?_
  refine xaM_iastore hX 33 rfl rfl (show vp_in _ 3 from vp_in_nI hq (by omega)) xnd_MO_copy_32 ?_
  refine xf_aload_n hX 34 rfl 0 xnd_MO_copy_33 rfl rfl ?_
  refine xg_MO_copiedEnd hX 37 rfl xk_MO_63 xnd_MO_copy_34 ?_
  refine xf_iload_n hX 38 rfl 1 xnd_MO_copy_37 rfl rfl ?_
  refine xf_aload_n hX 39 rfl 0 xnd_MO_copy_38 rfl rfl ?_
  refine xg_MO_ends hX 42 rfl xk_MO_26 xnd_MO_copy_39 ?_
  refine xf_iload_n hX 43 rfl 2 xnd_MO_copy_42 rfl rfl ?_
  refine xaM_iaload hX 44 rfl rfl hg xnd_MO_copy_43 ?_
  refine xaM_iastore hX 45 rfl rfl (show vp_in _ 3 from vp_in_nI hq (by omega)) xnd_MO_copy_44 ?_
  refine xf_aload_n hX 46 rfl 0 xnd_MO_copy_45 rfl rfl ?_
  refine xg_MO_states hX 49 rfl xk_MO_42 xnd_MO_copy_46 ?_
  refine xf_iload_n hX 50 rfl 1 xnd_MO_copy_49 rfl rfl ?_
  refine xf_iconst hX 51 rfl (5) xnd_MO_copy_50 (by decide) ?_
  refine xaM_iastore hX 52 rfl rfl (show vp_in _ 3 from vp_in_nI hq (by omega)) xnd_MO_copy_51 ?_
  refine xf_vret hX hE xnd_MO_copy_52 ?_
  refine ⟨rfl, ?_⟩
  simp only [xm_copy, ecl]
  rfl

set_option maxRecDepth 100000 in
set_option maxHeartbeats 4000000 in
theorem xm_cchk (P : xw_T) (σ τ : xf_T) (q : Nat) (hq : q < 3) (hg : ¬ τ.2 14 q ≤ 0 → vp_in (τ.2 14 q - 1) 32) : xf_F (xw_l P) xny_MO_check xnc_MO_check 3 none 2 40 (xw_W P) (xw_D P) (xw_ty P) [.ref (xw_a P 100), .int (nI q)] (σ, τ) none (σ, xm_chk τ q) := by
  refine xf_start (own := xnR_MO) [some (.ref (xw_a P 100)), some (.int (nI q)), none] rfl (by decide) (Nat.le_of_ble_eq_true rfl) rfl (xf_cat rfl) ?_
  intro X hX hE
  have ecl : (nI q).toNatClampNeg = q := nI_clamp (by omega)
  have K0 : τ.2 8 (xs_str (τ.2 11 q)).toNatClampNeg = τ.2 12 q → xm_hit τ q = 0 → xf_V X 93 [some (.ref (xw_a P 100)), some (.int (nI q)), none] [.int 0] (σ, τ) := by
    intro h20 hh
    refine xf_istore_n hX 94 rfl 2 xnd_MO_check_93 rfl (by decide) ?_
    dsimp only [List.set]
    refine xf_iload_n hX 95 rfl 2 xnd_MO_check_94 rfl rfl ?_
    refine xf_if_eq hX 98 rfl 112 xnd_MO_check_95 (by decide) (fun _ => ?_) (fun h95 => False.elim (by revert h95; decide))
    refine xf_aload_n hX 113 rfl 0 xnd_MO_check_112 rfl rfl ?_
    refine xg_MO_states hX 116 rfl xk_MO_42 xnd_MO_check_113 ?_
    refine xf_iload_n hX 117 rfl 1 xnd_MO_check_116 rfl rfl ?_
    refine xf_iload_n hX 118 rfl 2 xnd_MO_check_117 rfl rfl ?_
    refine xf_if_eq hX 121 rfl 126 xnd_MO_check_118 (by decide) (fun _ => ?_) (fun h118 => False.elim (by revert h118; decide))
    refine xf_bipush hX 128 rfl (8) xnd_MO_check_126 (by decide) ?_
    refine xaM_iastore hX 129 rfl rfl (show vp_in _ 3 from vp_in_nI hq (by omega)) xnd_MO_check_128 ?_
    rw [ecl]
    refine xf_vret hX hE xnd_MO_check_129 ?_
    exact ⟨rfl, by unfold xm_chk; rw [if_pos h20, if_pos hh]⟩
  have K1 : τ.2 8 (xs_str (τ.2 11 q)).toNatClampNeg = τ.2 12 q → vp_in (τ.2 14 q - 1) 32 → xm_hit τ q = 1 → xf_V X 93 [some (.ref (xw_a P 100)), some (.int (nI q)), none] [.int 1] (σ, τ) := by
    intro h20 hg9 hh
    refine xf_istore_n hX 94 rfl 2 xnd_MO_check_93 rfl (by decide) ?_
    dsimp only [List.set]
    refine xf_iload_n hX 95 rfl 2 xnd_MO_check_94 rfl rfl ?_
    refine xf_if_eq hX 98 rfl 112 xnd_MO_check_95 (by decide) (fun h95 => False.elim (by revert h95; decide)) (fun _ => ?_)
    refine xf_aload_n hX 99 rfl 0 xnd_MO_check_98 rfl rfl ?_
    refine xg_MO_bits hX 102 rfl xk_MO_29 xnd_MO_check_99 ?_
    refine xf_aload_n hX 103 rfl 0 xnd_MO_check_102 rfl rfl ?_
    refine xg_MO_got hX 106 rfl xk_MO_54 xnd_MO_check_103 ?_
    refine xf_iload_n hX 107 rfl 1 xnd_MO_check_106 rfl rfl ?_
    refine xaM_iaload hX 108 rfl rfl (show vp_in _ 3 from vp_in_nI hq (by omega)) xnd_MO_check_107 ?_
    rw [ecl]
    refine xf_iconst hX 109 rfl (1) xnd_MO_check_108 (by decide) ?_
    refine xf_isub hX 110 rfl xnd_MO_check_109 ?_
    refine xf_iconst hX 111 rfl (1) xnd_MO_check_110 (by decide) ?_
    refine xaM_bastore hX 112 rfl rfl hg9 rfl xnd_MO_check_111 ?_
    refine xf_aload_n hX 113 rfl 0 xnd_MO_check_112 rfl rfl ?_
    refine xg_MO_states hX 116 rfl xk_MO_42 xnd_MO_check_113 ?_
    refine xf_iload_n hX 117 rfl 1 xnd_MO_check_116 rfl rfl ?_
    refine xf_iload_n hX 118 rfl 2 xnd_MO_check_117 rfl rfl ?_
    refine xf_if_eq hX 121 rfl 126 xnd_MO_check_118 (by decide) (fun h118 => False.elim (by revert h118; decide)) (fun _ => ?_)
    refine xf_bipush hX 123 rfl (7) xnd_MO_check_121 (by decide) ?_
    refine xf_goto hX 128 xnd_MO_check_123 (by decide) ?_
    refine xaM_iastore hX 129 rfl rfl (show vp_in _ 3 from vp_in_nI hq (by omega)) xnd_MO_check_128 ?_
    rw [ecl]
    refine xf_vret hX hE xnd_MO_check_129 ?_
    exact ⟨rfl, by unfold xm_chk; rw [if_pos h20, hh, if_neg (by decide)]⟩
  refine xf_aload_n hX 1 rfl 0 xnd_MO_check_0 rfl rfl ?_
  refine xg_MO_versions hX 4 rfl xk_MO_32 xnd_MO_check_1 ?_
  refine xf_aload_n hX 5 rfl 0 xnd_MO_check_4 rfl rfl ?_
  refine xg_MO_sought hX 8 rfl xk_MO_45 xnd_MO_check_5 ?_
  refine xf_iload_n hX 9 rfl 1 xnd_MO_check_8 rfl rfl ?_
  refine xaM_iaload hX 10 rfl rfl (show vp_in _ 3 from vp_in_nI hq (by omega)) xnd_MO_check_9 ?_
  rw [ecl]
  refine xf_S1i hX 13 rfl (xm_cstr P _ _ _) xq_MO_stripe xk_MO_84 rfl rfl xnd_MO_check_10 ?_
  refine xaM_iaload hX 14 rfl rfl (xs_str_in _) xnd_MO_check_13 ?_
  refine xf_aload_n hX 15 rfl 0 xnd_MO_check_14 rfl rfl ?_
  refine xg_MO_kept hX 18 rfl xk_MO_48 xnd_MO_check_15 ?_
  refine xf_iload_n hX 19 rfl 1 xnd_MO_check_18 rfl rfl ?_
  refine xaM_iaload hX 20 rfl rfl (show vp_in _ 3 from vp_in_nI hq (by omega)) xnd_MO_check_19 ?_
  rw [ecl]
  refine xf_icmp_eq hX 23 rfl 66 xnd_MO_check_20 (by decide) (fun h20 => ?_) (fun h20 => ?_)
  · refine xf_aload_n hX 67 rfl 0 xnd_MO_check_66 rfl rfl ?_
    refine xg_MO_got hX 70 rfl xk_MO_54 xnd_MO_check_67 ?_
    refine xf_iload_n hX 71 rfl 1 xnd_MO_check_70 rfl rfl ?_
    refine xaM_iaload hX 72 rfl rfl (show vp_in _ 3 from vp_in_nI hq (by omega)) xnd_MO_check_71 ?_
    rw [ecl]
    refine xf_if_le hX 75 rfl 92 xnd_MO_check_72 (by decide) (fun h72 => ?_) (fun h72 => ?_)
    · refine xf_iconst hX 93 rfl (0) xnd_MO_check_92 (by decide) ?_
      first | exact K1 h20 (hg h72) (by simp only [xm_hit, eq_true h20, h72, if_true, if_false]) | exact K0 h20 (by simp only [xm_hit, eq_true h20, h72, if_true, if_false])
    · refine xf_aload_n hX 76 rfl 0 xnd_MO_check_75 rfl rfl ?_
      refine xf_aload_n hX 77 rfl 0 xnd_MO_check_76 rfl rfl ?_
      refine xg_MO_copiedEnd hX 80 rfl xk_MO_63 xnd_MO_check_77 ?_
      refine xf_iload_n hX 81 rfl 1 xnd_MO_check_80 rfl rfl ?_
      refine xaM_iaload hX 82 rfl rfl (show vp_in _ 3 from vp_in_nI hq (by omega)) xnd_MO_check_81 ?_
      rw [ecl]
      refine xf_V1i hX 85 rfl (xm_cover P _ _ _) xq_MO_over xk_MO_151 xrM_MO rfl rfl xnd_MO_check_82 ?_
      refine xf_if_ne hX 88 rfl 92 xnd_MO_check_85 (by decide) (fun h85 => ?_) (fun h85 => ?_)
      · refine xf_iconst hX 93 rfl (0) xnd_MO_check_92 (by decide) ?_
        first | exact K1 h20 (hg h72) (by simp only [xm_hit, eq_true h20, h72, h85, if_true, if_false]) | exact K0 h20 (by simp only [xm_hit, eq_true h20, h72, h85, if_true, if_false])
      · refine xf_iconst hX 89 rfl (1) xnd_MO_check_88 (by decide) ?_
        refine xf_goto hX 93 xnd_MO_check_89 (by decide) ?_
        first | exact K1 h20 (hg h72) (by simp only [xm_hit, eq_true h20, h72, eq_true h85, if_true, if_false]) | exact K0 h20 (by simp only [xm_hit, eq_true h20, h72, eq_true h85, if_true, if_false])
  · refine xf_aload_n hX 24 rfl 0 xnd_MO_check_23 rfl rfl ?_
    refine xf_dup hX 25 rfl xnd_MO_check_24 rfl ?_
    refine xg_MO_allRetries hX 28 rfl xk_MO_209 xnd_MO_check_25 ?_
    refine xf_iconst hX 29 rfl (1) xnd_MO_check_28 (by decide) ?_
    refine xf_iadd hX 30 rfl xnd_MO_check_29 ?_
    refine xp_MO_allRetries hX 33 rfl xk_MO_209 xnd_MO_check_30 ?_
    refine xf_aload_n hX 34 rfl 0 xnd_MO_check_33 rfl rfl ?_
    refine xg_MO_retries hX 37 rfl xk_MO_51 xnd_MO_check_34 ?_
    refine xf_iload_n hX 38 rfl 1 xnd_MO_check_37 rfl rfl ?_
    refine xf_dup2 hX 39 rfl xnd_MO_check_38 rfl rfl ?_
    refine xaM_iaload hX 40 rfl rfl (show vp_in _ 3 from vp_in_nI hq (by omega)) xnd_MO_check_39 ?_
    rw [ecl]
    refine xf_iconst hX 41 rfl (1) xnd_MO_check_40 (by decide) ?_
    refine xf_iadd hX 42 rfl xnd_MO_check_41 ?_
    refine xaM_iastore hX 43 rfl rfl (show vp_in _ 3 from vp_in_nI hq (by omega)) xnd_MO_check_42 ?_
    rw [ecl]
    refine xf_aload_n hX 44 rfl 0 xnd_MO_check_43 rfl rfl ?_
    refine xg_MO_states hX 47 rfl xk_MO_42 xnd_MO_check_44 ?_
    refine xf_iload_n hX 48 rfl 1 xnd_MO_check_47 rfl rfl ?_
    refine xf_aload_n hX 49 rfl 0 xnd_MO_check_48 rfl rfl ?_
    refine xg_MO_retries hX 52 rfl xk_MO_51 xnd_MO_check_49 ?_
    refine xf_iload_n hX 53 rfl 1 xnd_MO_check_52 rfl rfl ?_
    refine xaM_iaload hX 54 rfl rfl (show vp_in _ 3 from vp_in_nI hq (by omega)) xnd_MO_check_53 ?_
    rw [ecl]
    change xf_V X 54 _ (.int (upd (τ.2 13) q (τ.2 13 q + 1) q) :: _) _
    rw [pk_us]
    refine xf_iconst hX 55 rfl (3) xnd_MO_check_54 (by decide) ?_
    refine xf_icmp_lt hX 58 rfl 63 xnd_MO_check_55 (by decide) (fun h55 => ?_) (fun h55 => ?_)
    · refine xf_iconst hX 64 rfl (1) xnd_MO_check_63 (by decide) ?_
      refine xaM_iastore hX 65 rfl rfl (show vp_in _ 3 from vp_in_nI hq (by omega)) xnd_MO_check_64 ?_
      refine xf_vret hX hE xnd_MO_check_65 ?_
      refine ⟨rfl, ?_⟩
      simp only [xm_chk, ecl, h20, h55, if_true, if_false]
      try rfl
    · refine xf_bipush hX 60 rfl (6) xnd_MO_check_58 (by decide) ?_
      refine xf_goto hX 64 xnd_MO_check_60 (by decide) ?_
      refine xaM_iastore hX 65 rfl rfl (show vp_in _ 3 from vp_in_nI hq (by omega)) xnd_MO_check_64 ?_
      refine xf_vret hX hE xnd_MO_check_65 ?_
      refine ⟨rfl, ?_⟩
      simp only [xm_chk, ecl, h20, h55, if_true, if_false]
      try rfl

set_option maxRecDepth 100000 in
set_option maxHeartbeats 4000000 in
theorem xm_clck (P : xw_T) (σ τ : xf_T) (q : Nat) (hq : q < 3) (ho : xm_okP (xw_n P) (xw_w P) τ) : xf_F (xw_l P) xny_MO_locked xnc_MO_locked 5 none 6 135 (xw_W P) (xw_D P) (xw_ty P) [.ref (xw_a P 100), .int (nI q)] (σ, τ) none (σ, xm_lck (xw_w P) τ q) := by
  refine xf_start (own := xnR_MO) [some (.ref (xw_a P 100)), some (.int (nI q)), none, none, none] rfl (by decide) (Nat.le_of_ble_eq_true rfl) rfl (xf_cat rfl) ?_
  intro X hX hE
  have ecl : (nI q).toNatClampNeg = q := nI_clamp (by omega)
  have hw := ho.2
  refine xf_aload_n hX 1 rfl 0 xnd_MO_locked_0 rfl rfl ?_
  refine xg_MO_next hX 4 rfl xk_MO_99 xnd_MO_locked_1 ?_
  refine xf_if_le hX 7 rfl 18 xnd_MO_locked_4 (by decide) (fun h4 => ?_) (fun h4 => ?_)
  · have hFin : (if xm_lhit (xw_w P) τ q = 0 then xf_A (xm_lb (xw_w P) τ (τ.2 11 q)) 10 q 8 else xf_A (xm_lck1 (xw_w P) τ q) 10 q 7) = xm_lck (xw_w P) τ q := by unfold xm_lck; rw [if_pos h4]
    have hl1 : xm_lck1 (xw_w P) τ q = xf_A (xf_A (xf_A (xm_lb (xw_w P) τ (τ.2 11 q)) 15 q (τ.2 4 (xm_fnd (xw_w P) τ (τ.2 11 q)).toNatClampNeg)) 16 q (τ.2 5 (xm_fnd (xw_w P) τ (τ.2 11 q)).toNatClampNeg)) 7 (xm_fnd (xw_w P) τ (τ.2 11 q)).toNatClampNeg 1 := rfl
    rw [hl1] at hFin
    have hht : xm_lhit (xw_w P) τ q = if xm_fnd (xw_w P) τ (τ.2 11 q) < 0 then 0 else if xm_over τ (τ.2 6 (xm_fnd (xw_w P) τ (τ.2 11 q)).toNatClampNeg) = 0 then 1 else 0 := rfl
    have hs2 := xm_lb_2 (xw_w P) τ (τ.2 11 q)
    have hs1 : (xm_lb (xw_w P) τ (τ.2 11 q)).1 0 = τ.1 0 := xm_lb_1 (xw_w P) τ (τ.2 11 q) (by decide)
    have hwh := ho.whe (τ.2 11 q)
    have hfv := ho.fnd (τ.2 11 q)
    have hfe : (if xm_whe (xw_w P) τ (τ.2 11 q) < 0 then -1 else τ.2 1 (xm_whe (xw_w P) τ (τ.2 11 q)).toNatClampNeg - 1) = xm_fnd (xw_w P) τ (τ.2 11 q) := rfl
    generalize hs : xm_lb (xw_w P) τ (τ.2 11 q) = τ' at hs2 hs1 hFin
    generalize hF : xm_whe (xw_w P) τ (τ.2 11 q) = F at hwh hfe
    generalize xm_fnd (xw_w P) τ (τ.2 11 q) = f0 at hfv hfe hFin hht
    generalize xm_lck (xw_w P) τ q = FIN at hE hFin
    have hFi : 0 ≤ F → vp_in F 32 := by
      intro h9
      rcases hwh with g | ⟨p, g1, g2⟩
      · rw [g] at h9; exact absurd h9 (by decide)
      · exact xs_in g2 (by omega) (by omega)
    have hov : ∀ e, xm_over τ' e = xm_over τ e := by
      intro e
      unfold xm_over
      rw [hs1]
    have K0 : xm_lhit (xw_w P) τ q = 0 → xf_V X 68 [some (.ref (xw_a P 100)), some (.int (nI q)), some (.int F), some (.int f0), none] [.int 0] (σ, τ') := by
      intro hh
      refine xf_istore hX 70 rfl xnd_MO_locked_68 (by decide) ?_
      dsimp only [List.set]
      refine xf_iload hX 72 rfl xnd_MO_locked_70 rfl ?_
      refine xf_if_eq hX 75 rfl 106 xnd_MO_locked_72 (by decide) (fun _ => ?_) (fun h72 => False.elim (by revert h72; decide))
      refine xf_aload_n hX 107 rfl 0 xnd_MO_locked_106 rfl rfl ?_
      refine xg_MO_states hX 110 rfl xk_MO_42 xnd_MO_locked_107 ?_
      refine xf_iload_n hX 111 rfl 1 xnd_MO_locked_110 rfl rfl ?_
      refine xf_iload hX 113 rfl xnd_MO_locked_111 rfl ?_
      refine xf_if_eq hX 116 rfl 121 xnd_MO_locked_113 (by decide) (fun _ => ?_) (fun h113 => False.elim (by revert h113; decide))
      refine xf_bipush hX 123 rfl (8) xnd_MO_locked_121 (by decide) ?_
      refine xaM_iastore hX 124 rfl rfl (show vp_in _ 3 from vp_in_nI hq (by omega)) xnd_MO_locked_123 ?_
      rw [ecl]
      refine xf_vret hX hE xnd_MO_locked_124 ?_
      exact ⟨rfl, by rw [← hFin, if_pos hh]⟩
    have K1 : vp_in f0 32 → xm_lhit (xw_w P) τ q = 1 → xf_V X 68 [some (.ref (xw_a P 100)), some (.int (nI q)), some (.int F), some (.int f0), none] [.int 1] (σ, τ') := by
      intro hi hh
      refine xf_istore hX 70 rfl xnd_MO_locked_68 (by decide) ?_
      dsimp only [List.set]
      refine xf_iload hX 72 rfl xnd_MO_locked_70 rfl ?_
      refine xf_if_eq hX 75 rfl 106 xnd_MO_locked_72 (by decide) (fun h72 => False.elim (by revert h72; decide)) (fun _ => ?_)
      refine xf_aload_n hX 76 rfl 0 xnd_MO_locked_75 rfl rfl ?_
      refine xg_MO_copied hX 79 rfl xk_MO_57 xnd_MO_locked_76 ?_
      refine xf_iload_n hX 80 rfl 1 xnd_MO_locked_79 rfl rfl ?_
      refine xf_aload_n hX 81 rfl 0 xnd_MO_locked_80 rfl rfl ?_
      refine xg_MO_values hX 84 rfl xk_MO_20 xnd_MO_locked_81 ?_
      refine xf_iload_n hX 85 rfl 3 xnd_MO_locked_84 rfl rfl ?_
      refine xaM_iaload hX 86 rfl rfl hi xnd_MO_locked_85 ?_
      rw [hs2]
      refine xaM_iastore hX 87 rfl rfl (show vp_in _ 3 from vp_in_nI hq (by omega)) xnd_MO_locked_86 ?_
      rw [ecl]
      refine xf_aload_n hX 88 rfl 0 xnd_MO_locked_87 rfl rfl ?_
      refine xg_MO_copiedMark hX 91 rfl xk_MO_60 xnd_MO_locked_88 ?_
      refine xf_iload_n hX 92 rfl 1 xnd_MO_locked_91 rfl rfl ?_
      refine xf_aload_n hX 93 rfl 0 xnd_MO_locked_92 rfl rfl ?_
      refine xg_MO_marks hX 96 rfl xk_MO_23 xnd_MO_locked_93 ?_
      refine xf_iload_n hX 97 rfl 3 xnd_MO_locked_96 rfl rfl ?_
      refine xaM_iaload hX 98 rfl rfl hi xnd_MO_locked_97 ?_
      change xf_V X 98 _ (.int (τ'.2 5 f0.toNatClampNeg) :: _) _
      rw [hs2]
      refine xaM_iastore hX 99 rfl rfl (show vp_in _ 3 from vp_in_nI hq (by omega)) xnd_MO_locked_98 ?_
      rw [ecl]
      refine xf_aload_n hX 100 rfl 0 xnd_MO_locked_99 rfl rfl ?_
      refine xg_MO_bits hX 103 rfl xk_MO_29 xnd_MO_locked_100 ?_
      refine xf_iload_n hX 104 rfl 3 xnd_MO_locked_103 rfl rfl ?_
      refine xf_iconst hX 105 rfl (1) xnd_MO_locked_104 (by decide) ?_
      refine xaM_bastore hX 106 rfl rfl hi rfl xnd_MO_locked_105 ?_
      refine xf_aload_n hX 107 rfl 0 xnd_MO_locked_106 rfl rfl ?_
      refine xg_MO_states hX 110 rfl xk_MO_42 xnd_MO_locked_107 ?_
      refine xf_iload_n hX 111 rfl 1 xnd_MO_locked_110 rfl rfl ?_
      refine xf_iload hX 113 rfl xnd_MO_locked_111 rfl ?_
      refine xf_if_eq hX 116 rfl 121 xnd_MO_locked_113 (by decide) (fun h113 => False.elim (by revert h113; decide)) (fun _ => ?_)
      refine xf_bipush hX 118 rfl (7) xnd_MO_locked_116 (by decide) ?_
      refine xf_goto hX 123 xnd_MO_locked_118 (by decide) ?_
      refine xaM_iastore hX 124 rfl rfl (show vp_in _ 3 from vp_in_nI hq (by omega)) xnd_MO_locked_123 ?_
      rw [ecl]
      refine xf_vret hX hE xnd_MO_locked_124 ?_
      exact ⟨rfl, by rw [← hFin, hh, if_neg (by decide)]⟩
    have K : ∀ f, f = f0 → xf_V X 45 [some (.ref (xw_a P 100)), some (.int (nI q)), some (.int F), none, none] [.int f] (σ, τ') := by
      intro f hf0
      subst hf0
      refine xf_istore_n hX 46 rfl 3 xnd_MO_locked_45 rfl (by decide) ?_
      dsimp only [List.set]
      refine xf_iload_n hX 47 rfl 3 xnd_MO_locked_46 rfl rfl ?_
      refine xf_if_lt hX 50 rfl 67 xnd_MO_locked_47 (by decide) (fun h47 => ?_) (fun h47 => ?_)
      · refine xf_iconst hX 68 rfl (0) xnd_MO_locked_67 (by decide) ?_
        first | exact K1 hi (by rw [hht]; simp only [h47, if_true, if_false]) | exact K0 (by rw [hht]; simp only [h47, if_true, if_false])
      · refine xf_aload_n hX 51 rfl 0 xnd_MO_locked_50 rfl rfl ?_
        refine xf_aload_n hX 52 rfl 0 xnd_MO_locked_51 rfl rfl ?_
        refine xg_MO_ends hX 55 rfl xk_MO_26 xnd_MO_locked_52 ?_
        refine xf_iload_n hX 56 rfl 3 xnd_MO_locked_55 rfl rfl ?_
        have hi : vp_in f 32 := hfv.resolve_left h47
        refine xaM_iaload hX 57 rfl rfl hi xnd_MO_locked_56 ?_
        rw [hs2]
        refine xf_V1i hX 60 rfl (xm_cover P _ _ _) xq_MO_over xk_MO_151 xrM_MO rfl rfl xnd_MO_locked_57 ?_
        rw [hov]
        refine xf_if_ne hX 63 rfl 67 xnd_MO_locked_60 (by decide) (fun h60 => ?_) (fun h60 => ?_)
        · refine xf_iconst hX 68 rfl (0) xnd_MO_locked_67 (by decide) ?_
          first | exact K1 hi (by rw [hht]; simp only [h47, h60, if_true, if_false]) | exact K0 (by rw [hht]; simp only [h47, h60, if_true, if_false])
        · refine xf_iconst hX 64 rfl (1) xnd_MO_locked_63 (by decide) ?_
          refine xf_goto hX 68 xnd_MO_locked_64 (by decide) ?_
          first | exact K1 hi (by rw [hht]; simp only [h47, eq_true h60, if_true, if_false]) | exact K0 (by rw [hht]; simp only [h47, eq_true h60, if_true, if_false])
    refine xf_aload_n hX 19 rfl 0 xnd_MO_locked_18 rfl rfl ?_
    refine xf_aload_n hX 20 rfl 0 xnd_MO_locked_19 rfl rfl ?_
    refine xg_MO_sought hX 23 rfl xk_MO_45 xnd_MO_locked_20 ?_
    refine xf_iload_n hX 24 rfl 1 xnd_MO_locked_23 rfl rfl ?_
    refine xaM_iaload hX 25 rfl rfl (show vp_in _ 3 from vp_in_nI hq (by omega)) xnd_MO_locked_24 ?_
    rw [ecl]
    refine xf_V1i hX 28 rfl (xm_clb P _ _ _ ho) xq_MO_lookBoth xk_MO_148 xrM_MO rfl rfl xnd_MO_locked_25 ?_
    rw [hs, hF]
    refine xf_istore_n hX 29 rfl 2 xnd_MO_locked_28 rfl (by decide) ?_
    dsimp only [List.set]
    refine xf_iload_n hX 30 rfl 2 xnd_MO_locked_29 rfl rfl ?_
    refine xf_if_ge hX 33 rfl 37 xnd_MO_locked_30 (by decide) (fun h30 => ?_) (fun h30 => ?_)
    · refine xf_aload_n hX 38 rfl 0 xnd_MO_locked_37 rfl rfl ?_
      refine xg_MO_held hX 41 rfl xk_MO_7 xnd_MO_locked_38 ?_
      refine xf_iload_n hX 42 rfl 2 xnd_MO_locked_41 rfl rfl ?_
      refine xaM_iaload hX 43 rfl rfl (hFi h30) xnd_MO_locked_42 ?_
      rw [hs2]
      refine xf_iconst hX 44 rfl (1) xnd_MO_locked_43 (by decide) ?_
      refine xf_isub hX 45 rfl xnd_MO_locked_44 ?_
      exact K _ (by rw [← hfe, if_neg (by rw [Int32.not_lt]; exact h30)])
    · refine xf_iconst hX 34 rfl (-1) xnd_MO_locked_33 (by decide) ?_
      refine xf_goto hX 45 xnd_MO_locked_34 (by decide) ?_
      exact K _ (by rw [← hfe, if_pos (by rw [← Int32.not_le]; exact h30)])
  · refine xf_aload_n hX 8 rfl 0 xnd_MO_locked_7 rfl rfl ?_
    refine xf_dup hX 9 rfl xnd_MO_locked_8 rfl ?_
    refine xg_MO_waits hX 12 rfl xk_MO_206 xnd_MO_locked_9 ?_
    refine xf_iconst hX 13 rfl (1) xnd_MO_locked_12 (by decide) ?_
    refine xf_iadd hX 14 rfl xnd_MO_locked_13 ?_
    refine xp_MO_waits hX 17 rfl xk_MO_206 xnd_MO_locked_14 ?_
    refine xf_vret hX hE xnd_MO_locked_17 ?_
    exact ⟨rfl, by unfold xm_lck; rw [if_neg h4]⟩

def xm_okR (n w : Nat) (τ : xf_T) (q : Nat) : Prop := xm_okP n w τ ∧ (τ.2 10 q = 4 → vp_in (τ.2 14 q - 1) 32) ∧ (τ.2 10 q = 5 → ¬ τ.2 14 q ≤ 0 → vp_in (τ.2 14 q - 1) 32)
set_option maxRecDepth 100000 in
set_option maxHeartbeats 4000000 in
theorem xm_cstep (P : xw_T) (σ τ : xf_T) (r : Int32) (hk : ∀ q, q < 3 → xm_okR (xw_n P) (xw_w P) τ q) : xf_F (xw_l P) xny_MO_step xnc_MO_step 3 (some .int) 7 159 (xw_W P) (xw_D P) (xw_ty P) [.ref (xw_a P 100), .int r] (σ, τ) (some (.int (xm_stpV (xw_w P) τ r))) (σ, xm_stp (xw_w P) τ r) := by
  refine xf_start (own := xnR_MO) [some (.ref (xw_a P 100)), some (.int r), none] rfl (by decide) (Nat.le_of_ble_eq_true rfl) rfl (xf_cat rfl) ?_
  intro X hX hE
  refine xf_aload_n hX 1 rfl 0 xnd_MO_step_0 rfl rfl ?_
  refine xf_iload_n hX 2 rfl 1 xnd_MO_step_1 rfl rfl ?_
  refine xf_V1i hX 5 rfl (xm_crdg P _ _ _) xq_MO_reading xk_MO_187 xrM_MO rfl rfl xnd_MO_step_2 ?_
  refine xf_if_ne hX 8 rfl 10 xnd_MO_step_5 (by decide) (fun h5 => ?_) (fun h5 => ?_)
  · obtain ⟨q, hq, rfl⟩ := (xm_rd_in (xm_rdg_rd h5)).2
    have ecl : (nI q).toNatClampNeg = q := nI_clamp (by omega)
    refine xf_aload_n hX 11 rfl 0 xnd_MO_step_10 rfl rfl ?_
    refine xg_MO_states hX 14 rfl xk_MO_42 xnd_MO_step_11 ?_
    refine xf_iload_n hX 15 rfl 1 xnd_MO_step_14 rfl rfl ?_
    refine xaM_iaload hX 16 rfl rfl (show vp_in _ 3 from vp_in_nI hq (by omega)) xnd_MO_step_15 ?_
    rw [ecl]
    refine xf_istore_n hX 17 rfl 2 xnd_MO_step_16 rfl (by decide) ?_
    dsimp only [List.set]
    refine xf_iload_n hX 18 rfl 2 xnd_MO_step_17 rfl rfl ?_
    refine xf_iconst hX 19 rfl (1) xnd_MO_step_18 (by decide) ?_
    refine xf_icmp_ne hX 22 rfl 44 xnd_MO_step_19 (by decide) (fun h19 => ?_) (fun h19 => ?_)
    · refine xf_iload_n hX 45 rfl 2 xnd_MO_step_44 rfl rfl ?_
      refine xf_iconst hX 46 rfl (2) xnd_MO_step_45 (by decide) ?_
      refine xf_icmp_eq hX 49 rfl 54 xnd_MO_step_46 (by decide) (fun h46 => ?_) (fun h46 => ?_)
      · rw [h46]
        refine xf_aload_n hX 55 rfl 0 xnd_MO_step_54 rfl rfl ?_
        refine xf_iload_n hX 56 rfl 1 xnd_MO_step_55 rfl rfl ?_
        refine xf_iload_n hX 57 rfl 2 xnd_MO_step_56 rfl rfl ?_
        refine xf_V2v hX 60 rfl (xm_cfind P _ _ _ hq _ (hk q hq).1) xq_MO_find xk_MO_194 xrM_MO rfl rfl xnd_MO_step_57 ?_
        refine xf_goto hX 94 xnd_MO_step_60 (by decide) ?_
        refine xf_aload_n hX 95 rfl 0 xnd_MO_step_94 rfl rfl ?_
        refine xg_MO_states hX 98 rfl xk_MO_42 xnd_MO_step_95 ?_
        refine xf_iload_n hX 99 rfl 1 xnd_MO_step_98 rfl rfl ?_
        refine xaM_iaload hX 100 rfl rfl (show vp_in _ 3 from vp_in_nI hq (by omega)) xnd_MO_step_99 ?_
        rw [ecl]
        refine xf_iret hX hE xnd_MO_step_100 ?_
        refine ⟨?_, ?_⟩ <;> simp only [xm_stpV, xm_stp, xm_step, ecl, h5, h19, eq_true h46, if_true, if_false]
      · refine xf_iload_n hX 50 rfl 2 xnd_MO_step_49 rfl rfl ?_
        refine xf_iconst hX 51 rfl (3) xnd_MO_step_50 (by decide) ?_
        refine xf_icmp_ne hX 54 rfl 63 xnd_MO_step_51 (by decide) (fun h51 => ?_) (fun h51 => ?_)
        · refine xf_iload_n hX 64 rfl 2 xnd_MO_step_63 rfl rfl ?_
          refine xf_iconst hX 65 rfl (4) xnd_MO_step_64 (by decide) ?_
          refine xf_icmp_ne hX 68 rfl 76 xnd_MO_step_65 (by decide) (fun h65 => ?_) (fun h65 => ?_)
          · refine xf_iload_n hX 77 rfl 2 xnd_MO_step_76 rfl rfl ?_
            refine xf_iconst hX 78 rfl (5) xnd_MO_step_77 (by decide) ?_
            refine xf_icmp_ne hX 81 rfl 89 xnd_MO_step_78 (by decide) (fun h78 => ?_) (fun h78 => ?_)
            · refine xf_aload_n hX 90 rfl 0 xnd_MO_step_89 rfl rfl ?_
              refine xf_iload_n hX 91 rfl 1 xnd_MO_step_90 rfl rfl ?_
              refine xf_V1v hX 94 rfl (xm_clck P _ _ _ hq (hk q hq).1) xq_MO_locked xk_MO_203 xrM_MO rfl rfl xnd_MO_step_91 ?_
              refine xf_aload_n hX 95 rfl 0 xnd_MO_step_94 rfl rfl ?_
              refine xg_MO_states hX 98 rfl xk_MO_42 xnd_MO_step_95 ?_
              refine xf_iload_n hX 99 rfl 1 xnd_MO_step_98 rfl rfl ?_
              refine xaM_iaload hX 100 rfl rfl (show vp_in _ 3 from vp_in_nI hq (by omega)) xnd_MO_step_99 ?_
              rw [ecl]
              refine xf_iret hX hE xnd_MO_step_100 ?_
              refine ⟨?_, ?_⟩ <;> simp only [xm_stpV, xm_stp, xm_step, ecl, h5, h19, h46, h51, h65, h78, if_true, if_false]
            · refine xf_aload_n hX 82 rfl 0 xnd_MO_step_81 rfl rfl ?_
              refine xf_iload_n hX 83 rfl 1 xnd_MO_step_82 rfl rfl ?_
              refine xf_V1v hX 86 rfl (xm_cchk P _ _ _ hq ((hk q hq).2.2 h78)) xq_MO_check xk_MO_200 xrM_MO rfl rfl xnd_MO_step_83 ?_
              refine xf_goto hX 94 xnd_MO_step_86 (by decide) ?_
              refine xf_aload_n hX 95 rfl 0 xnd_MO_step_94 rfl rfl ?_
              refine xg_MO_states hX 98 rfl xk_MO_42 xnd_MO_step_95 ?_
              refine xf_iload_n hX 99 rfl 1 xnd_MO_step_98 rfl rfl ?_
              refine xaM_iaload hX 100 rfl rfl (show vp_in _ 3 from vp_in_nI hq (by omega)) xnd_MO_step_99 ?_
              rw [ecl]
              refine xf_iret hX hE xnd_MO_step_100 ?_
              refine ⟨?_, ?_⟩ <;> simp only [xm_stpV, xm_stp, xm_step, ecl, h5, h19, h46, h51, h65, eq_true h78, if_true, if_false]
          · refine xf_aload_n hX 69 rfl 0 xnd_MO_step_68 rfl rfl ?_
            refine xf_iload_n hX 70 rfl 1 xnd_MO_step_69 rfl rfl ?_
            refine xf_V1v hX 73 rfl (xm_ccopy P _ _ _ hq ((hk q hq).2.1 h65)) xq_MO_copy xk_MO_197 xrM_MO rfl rfl xnd_MO_step_70 ?_
            refine xf_goto hX 94 xnd_MO_step_73 (by decide) ?_
            refine xf_aload_n hX 95 rfl 0 xnd_MO_step_94 rfl rfl ?_
            refine xg_MO_states hX 98 rfl xk_MO_42 xnd_MO_step_95 ?_
            refine xf_iload_n hX 99 rfl 1 xnd_MO_step_98 rfl rfl ?_
            refine xaM_iaload hX 100 rfl rfl (show vp_in _ 3 from vp_in_nI hq (by omega)) xnd_MO_step_99 ?_
            rw [ecl]
            refine xf_iret hX hE xnd_MO_step_100 ?_
            refine ⟨?_, ?_⟩ <;> simp only [xm_stpV, xm_stp, xm_step, ecl, h5, h19, h46, h51, eq_true h65, if_true, if_false]
        · rw [h51]
          refine xf_aload_n hX 55 rfl 0 xnd_MO_step_54 rfl rfl ?_
          refine xf_iload_n hX 56 rfl 1 xnd_MO_step_55 rfl rfl ?_
          refine xf_iload_n hX 57 rfl 2 xnd_MO_step_56 rfl rfl ?_
          refine xf_V2v hX 60 rfl (xm_cfind P _ _ _ hq _ (hk q hq).1) xq_MO_find xk_MO_194 xrM_MO rfl rfl xnd_MO_step_57 ?_
          refine xf_goto hX 94 xnd_MO_step_60 (by decide) ?_
          refine xf_aload_n hX 95 rfl 0 xnd_MO_step_94 rfl rfl ?_
          refine xg_MO_states hX 98 rfl xk_MO_42 xnd_MO_step_95 ?_
          refine xf_iload_n hX 99 rfl 1 xnd_MO_step_98 rfl rfl ?_
          refine xaM_iaload hX 100 rfl rfl (show vp_in _ 3 from vp_in_nI hq (by omega)) xnd_MO_step_99 ?_
          rw [ecl]
          refine xf_iret hX hE xnd_MO_step_100 ?_
          refine ⟨?_, ?_⟩ <;> simp only [xm_stpV, xm_stp, xm_step, ecl, h5, h19, h46, eq_true h51, if_true, if_false]
    · refine xf_aload_n hX 23 rfl 0 xnd_MO_step_22 rfl rfl ?_
      refine xf_iload_n hX 24 rfl 1 xnd_MO_step_23 rfl rfl ?_
      refine xf_aload_n hX 25 rfl 0 xnd_MO_step_24 rfl rfl ?_
      refine xg_MO_versions hX 28 rfl xk_MO_32 xnd_MO_step_25 ?_
      refine xf_aload_n hX 29 rfl 0 xnd_MO_step_28 rfl rfl ?_
      refine xg_MO_sought hX 32 rfl xk_MO_45 xnd_MO_step_29 ?_
      refine xf_iload_n hX 33 rfl 1 xnd_MO_step_32 rfl rfl ?_
      refine xaM_iaload hX 34 rfl rfl (show vp_in _ 3 from vp_in_nI hq (by omega)) xnd_MO_step_33 ?_
      rw [ecl]
      refine xf_S1i hX 37 rfl (xm_cstr P _ _ _) xq_MO_stripe xk_MO_84 rfl rfl xnd_MO_step_34 ?_
      refine xaM_iaload hX 38 rfl rfl (xs_str_in _) xnd_MO_step_37 ?_
      refine xf_V2v hX 41 rfl (xm_ckeep P _ _ _ hq _) xq_MO_keep xk_MO_190 xrM_MO rfl rfl xnd_MO_step_38 ?_
      refine xf_goto hX 94 xnd_MO_step_41 (by decide) ?_
      refine xf_aload_n hX 95 rfl 0 xnd_MO_step_94 rfl rfl ?_
      refine xg_MO_states hX 98 rfl xk_MO_42 xnd_MO_step_95 ?_
      refine xf_iload_n hX 99 rfl 1 xnd_MO_step_98 rfl rfl ?_
      refine xaM_iaload hX 100 rfl rfl (show vp_in _ 3 from vp_in_nI hq (by omega)) xnd_MO_step_99 ?_
      rw [ecl]
      refine xf_iret hX hE xnd_MO_step_100 ?_
      refine ⟨?_, ?_⟩ <;> simp only [xm_stpV, xm_stp, xm_step, ecl, h5, eq_true h19, if_true, if_false]
  · refine xf_iconst hX 9 rfl (-1) xnd_MO_step_8 (by decide) ?_
    refine xf_iret hX hE xnd_MO_step_9 ?_
    refine ⟨?_, ?_⟩ <;> simp only [xm_stpV, xm_stp, eq_true h5, if_true, if_false]

set_option maxRecDepth 100000 in
set_option maxHeartbeats 4000000 in
theorem xm_csta (P : xw_T) (σ τ : xf_T) (r : Int32) : xf_F (xw_l P) xny_MO_state xnc_MO_state 2 (some .int) 1 20 (xw_W P) (xw_D P) (xw_ty P) [.ref (xw_a P 100), .int r] (σ, τ) (some (.int (xm_sta τ r))) (σ, τ) := by
  refine xf_start (own := xnR_MO) [some (.ref (xw_a P 100)), some (.int r)] rfl (by decide) (Nat.le_of_ble_eq_true rfl) rfl (xf_cat rfl) ?_
  intro X hX hE
  refine xf_iload_n hX 1 rfl 1 xnd_MO_state_0 rfl rfl ?_
  refine xf_S1i hX 4 rfl (xm_crd P _ _ _) xq_MO_reader xk_MO_184 rfl rfl xnd_MO_state_1 ?_
  refine xf_if_eq hX 7 rfl 16 xnd_MO_state_4 (by decide) (fun h4 => ?_) (fun h4 => ?_)
  · refine xf_iconst hX 17 rfl (-1) xnd_MO_state_16 (by decide) ?_
    refine xf_iret hX hE xnd_MO_state_17 ?_
    refine ⟨?_, rfl⟩
    simp only [xm_sta, eq_true h4, if_true, if_false]
  · refine xf_aload_n hX 8 rfl 0 xnd_MO_state_7 rfl rfl ?_
    refine xg_MO_states hX 11 rfl xk_MO_42 xnd_MO_state_8 ?_
    refine xf_iload_n hX 12 rfl 1 xnd_MO_state_11 rfl rfl ?_
    refine xaM_iaload hX 13 rfl rfl (xm_rd_in h4).1 xnd_MO_state_12 ?_
    refine xf_goto hX 17 xnd_MO_state_13 (by decide) ?_
    refine xf_iret hX hE xnd_MO_state_17 ?_
    refine ⟨?_, rfl⟩
    simp only [xm_sta, h4, if_true, if_false]

set_option maxRecDepth 100000 in
set_option maxHeartbeats 4000000 in
theorem xm_cval (P : xw_T) (σ τ : xf_T) (r : Int32) : xf_F (xw_l P) xny_MO_value xnc_MO_value 2 (some .int) 1 20 (xw_W P) (xw_D P) (xw_ty P) [.ref (xw_a P 100), .int r] (σ, τ) (some (.int (xm_val τ r 15))) (σ, τ) := by
  refine xf_start (own := xnR_MO) [some (.ref (xw_a P 100)), some (.int r)] rfl (by decide) (Nat.le_of_ble_eq_true rfl) rfl (xf_cat rfl) ?_
  intro X hX hE
  refine xf_iload_n hX 1 rfl 1 xnd_MO_value_0 rfl rfl ?_
  refine xf_S1i hX 4 rfl (xm_crd P _ _ _) xq_MO_reader xk_MO_184 rfl rfl xnd_MO_value_1 ?_
  refine xf_if_eq hX 7 rfl 27 xnd_MO_value_4 (by decide) (fun h4 => ?_) (fun h4 => ?_)
  · refine xf_iconst hX 28 rfl (0) xnd_MO_value_27 (by decide) ?_
    refine xf_iret hX hE xnd_MO_value_28 ?_
    refine ⟨?_, rfl⟩
    simp only [xm_val, eq_true h4, if_true, if_false]
  · refine xf_aload_n hX 8 rfl 0 xnd_MO_value_7 rfl rfl ?_
    refine xg_MO_states hX 11 rfl xk_MO_42 xnd_MO_value_8 ?_
    refine xf_iload_n hX 12 rfl 1 xnd_MO_value_11 rfl rfl ?_
    refine xaM_iaload hX 13 rfl rfl (xm_rd_in h4).1 xnd_MO_value_12 ?_
    refine xf_bipush hX 15 rfl (7) xnd_MO_value_13 (by decide) ?_
    refine xf_icmp_ne hX 18 rfl 27 xnd_MO_value_15 (by decide) (fun h15 => ?_) (fun h15 => ?_)
    · refine xf_iconst hX 28 rfl (0) xnd_MO_value_27 (by decide) ?_
      refine xf_iret hX hE xnd_MO_value_28 ?_
      refine ⟨?_, rfl⟩
      simp only [xm_val, h4, h15, if_true, if_false]
    · refine xf_aload_n hX 19 rfl 0 xnd_MO_value_18 rfl rfl ?_
      refine xg_MO_copied hX 22 rfl xk_MO_57 xnd_MO_value_19 ?_
      refine xf_iload_n hX 23 rfl 1 xnd_MO_value_22 rfl rfl ?_
      refine xaM_iaload hX 24 rfl rfl (xm_rd_in h4).1 xnd_MO_value_23 ?_
      refine xf_goto hX 28 xnd_MO_value_24 (by decide) ?_
      refine xf_iret hX hE xnd_MO_value_28 ?_
      refine ⟨?_, rfl⟩
      simp only [xm_val, h4, eq_true h15, if_true, if_false]

set_option maxRecDepth 100000 in
set_option maxHeartbeats 4000000 in
theorem xm_ctok (P : xw_T) (σ τ : xf_T) (r : Int32) : xf_F (xw_l P) xny_MO_token xnc_MO_token 2 (some .int) 1 20 (xw_W P) (xw_D P) (xw_ty P) [.ref (xw_a P 100), .int r] (σ, τ) (some (.int (xm_val τ r 16))) (σ, τ) := by
  refine xf_start (own := xnR_MO) [some (.ref (xw_a P 100)), some (.int r)] rfl (by decide) (Nat.le_of_ble_eq_true rfl) rfl (xf_cat rfl) ?_
  intro X hX hE
  refine xf_iload_n hX 1 rfl 1 xnd_MO_token_0 rfl rfl ?_
  refine xf_S1i hX 4 rfl (xm_crd P _ _ _) xq_MO_reader xk_MO_184 rfl rfl xnd_MO_token_1 ?_
  refine xf_if_eq hX 7 rfl 27 xnd_MO_token_4 (by decide) (fun h4 => ?_) (fun h4 => ?_)
  · refine xf_iconst hX 28 rfl (0) xnd_MO_token_27 (by decide) ?_
    refine xf_iret hX hE xnd_MO_token_28 ?_
    refine ⟨?_, rfl⟩
    simp only [xm_val, eq_true h4, if_true, if_false]
  · refine xf_aload_n hX 8 rfl 0 xnd_MO_token_7 rfl rfl ?_
    refine xg_MO_states hX 11 rfl xk_MO_42 xnd_MO_token_8 ?_
    refine xf_iload_n hX 12 rfl 1 xnd_MO_token_11 rfl rfl ?_
    refine xaM_iaload hX 13 rfl rfl (xm_rd_in h4).1 xnd_MO_token_12 ?_
    refine xf_bipush hX 15 rfl (7) xnd_MO_token_13 (by decide) ?_
    refine xf_icmp_ne hX 18 rfl 27 xnd_MO_token_15 (by decide) (fun h15 => ?_) (fun h15 => ?_)
    · refine xf_iconst hX 28 rfl (0) xnd_MO_token_27 (by decide) ?_
      refine xf_iret hX hE xnd_MO_token_28 ?_
      refine ⟨?_, rfl⟩
      simp only [xm_val, h4, h15, if_true, if_false]
    · refine xf_aload_n hX 19 rfl 0 xnd_MO_token_18 rfl rfl ?_
      refine xg_MO_copiedMark hX 22 rfl xk_MO_60 xnd_MO_token_19 ?_
      refine xf_iload_n hX 23 rfl 1 xnd_MO_token_22 rfl rfl ?_
      refine xaM_iaload hX 24 rfl rfl (xm_rd_in h4).1 xnd_MO_token_23 ?_
      refine xf_goto hX 28 xnd_MO_token_24 (by decide) ?_
      refine xf_iret hX hE xnd_MO_token_28 ?_
      refine ⟨?_, rfl⟩
      simp only [xm_val, h4, eq_true h15, if_true, if_false]

set_option maxRecDepth 100000 in
set_option maxHeartbeats 4000000 in
theorem xm_cpass (P : xw_T) (σ τ : xf_T) (k : Int32) : xf_F (xw_l P) xny_MO_pass xnc_MO_pass 2 (some .boolean) 0 0 (xw_W P) (xw_D P) (xw_ty P) [.ref (xw_a P 100), .int k] (σ, τ) (some (.int (xm_passB k))) (σ, xm_pass τ k) := by
  refine xf_start (own := xnR_MO) [some (.ref (xw_a P 100)), some (.int k)] rfl (by decide) (Nat.le_of_ble_eq_true rfl) rfl (xf_cat rfl) ?_
  intro X hX hE
  refine xf_iload_n hX 1 rfl 1 xnd_MO_pass_0 rfl rfl ?_
  refine xf_iconst hX 2 rfl (1) xnd_MO_pass_1 (by decide) ?_
  refine xf_icmp_lt hX 5 rfl 12 xnd_MO_pass_2 (by decide) (fun h2 => ?_) (fun h2 => ?_)
  · refine xf_iconst hX 13 rfl (0) xnd_MO_pass_12 (by decide) ?_
    refine xf_zret hX hE xnd_MO_pass_13 rfl ?_
    refine ⟨?_, ?_⟩ <;> simp only [xm_passB, xm_pass, h2, if_true, if_false]
  · refine xf_iload_n hX 6 rfl 1 xnd_MO_pass_5 rfl rfl ?_
    refine xf_sipush hX 9 rfl (1000) xnd_MO_pass_6 (by decide) ?_
    refine xf_icmp_le hX 12 rfl 14 xnd_MO_pass_9 (by decide) (fun h9 => ?_) (fun h9 => ?_)
    · refine xf_aload_n hX 15 rfl 0 xnd_MO_pass_14 rfl rfl ?_
      refine xf_dup hX 16 rfl xnd_MO_pass_15 rfl ?_
      refine xg_MO_time hX 19 rfl xk_MO_96 xnd_MO_pass_16 ?_
      refine xf_iload_n hX 20 rfl 1 xnd_MO_pass_19 rfl rfl ?_
      refine xf_iadd hX 21 rfl xnd_MO_pass_20 ?_
      refine xp_MO_time hX 24 rfl xk_MO_96 xnd_MO_pass_21 ?_
      refine xf_iconst hX 25 rfl (1) xnd_MO_pass_24 (by decide) ?_
      refine xf_zret hX hE xnd_MO_pass_25 rfl ?_
      refine ⟨?_, ?_⟩ <;> simp only [xm_passB, xm_pass, h2, h9, if_true, if_false]
    · refine xf_iconst hX 13 rfl (0) xnd_MO_pass_12 (by decide) ?_
      refine xf_zret hX hE xnd_MO_pass_13 rfl ?_
      refine ⟨?_, ?_⟩ <;> simp only [xm_passB, xm_pass, h2, h9, if_true, if_false]

set_option maxRecDepth 100000 in
set_option maxHeartbeats 4000000 in
theorem xm_cat (P : xw_T) (σ τ : xf_T) (p : Int32) (hw : 1 ≤ (xw_w P) ∧ (xw_w P) ≤ 4) : xf_F (xw_l P) xny_MO_at xnc_MO_at 2 (some .int) 0 0 (xw_W P) (xw_D P) (xw_ty P) [.ref (xw_a P 100), .int p] (σ, τ) (some (.int (xm_atp (xw_w P) τ p))) (σ, τ) := by
  refine xf_start (own := xnR_MO) [some (.ref (xw_a P 100)), some (.int p)] rfl (by decide) (Nat.le_of_ble_eq_true rfl) rfl (xf_cat rfl) ?_
  intro X hX hE
  refine xf_iload_n hX 1 rfl 1 xnd_MO_at_0 rfl rfl ?_
  refine xf_if_lt hX 4 rfl 26 xnd_MO_at_1 (by decide) (fun h1 => ?_) (fun h1 => ?_)
  · refine xf_iconst hX 27 rfl (-1) xnd_MO_at_26 (by decide) ?_
    refine xf_iret hX hE xnd_MO_at_27 ?_
    refine ⟨?_, rfl⟩
    simp only [xm_atp, h1, if_true, if_false]
  · refine xf_iload_n hX 5 rfl 1 xnd_MO_at_4 rfl rfl ?_
    refine xf_bipush hX 7 rfl (8) xnd_MO_at_5 (by decide) ?_
    refine xf_aload_n hX 8 rfl 0 xnd_MO_at_7 rfl rfl ?_
    refine xg_MO_ways hX 11 rfl xk_MO_69 xnd_MO_at_8 ?_
    refine xf_imul hX 12 rfl xnd_MO_at_11 ?_
    rw [show (8 : Int32) * nI (xw_w P) = nI (8 * (xw_w P)) from pk_mul 8 _]
    refine xf_icmp_ge hX 15 rfl 26 xnd_MO_at_12 (by decide) (fun h12 => ?_) (fun h12 => ?_)
    · refine xf_iconst hX 27 rfl (-1) xnd_MO_at_26 (by decide) ?_
      refine xf_iret hX hE xnd_MO_at_27 ?_
      refine ⟨?_, rfl⟩
      simp only [xm_atp, h1, h12, if_true, if_false]
    · refine xf_aload_n hX 16 rfl 0 xnd_MO_at_15 rfl rfl ?_
      refine xg_MO_held hX 19 rfl xk_MO_7 xnd_MO_at_16 ?_
      refine xf_iload_n hX 20 rfl 1 xnd_MO_at_19 rfl rfl ?_
      have hi : vp_in p 32 := by
        have h9 := xm_lim (N := 8 * (xw_w P)) (by omega) h1 h12
        rw [vp_in_iff] at h9 ⊢
        omega
      refine xaM_iaload hX 21 rfl rfl hi xnd_MO_at_20 ?_
      refine xf_iconst hX 22 rfl (1) xnd_MO_at_21 (by decide) ?_
      refine xf_isub hX 23 rfl xnd_MO_at_22 ?_
      refine xf_goto hX 27 xnd_MO_at_23 (by decide) ?_
      refine xf_iret hX hE xnd_MO_at_27 ?_
      refine ⟨?_, rfl⟩
      simp only [xm_atp, h1, h12, if_true, if_false]

set_option maxRecDepth 100000 in
set_option maxHeartbeats 4000000 in
theorem xm_cused (P : xw_T) (σ τ : xf_T) (i : Int32) (hn : 1 ≤ (xw_n P) ∧ (xw_n P) ≤ 32) : xf_F (xw_l P) xny_MO_used xnc_MO_used 2 (some .boolean) 0 0 (xw_W P) (xw_D P) (xw_ty P) [.ref (xw_a P 100), .int i] (σ, τ) (some (.int (xm_used (xw_n P) τ i))) (σ, τ) := by
  refine xf_start (own := xnR_MO) [some (.ref (xw_a P 100)), some (.int i)] rfl (by decide) (Nat.le_of_ble_eq_true rfl) rfl (xf_cat rfl) ?_
  intro X hX hE
  refine xf_iload_n hX 1 rfl 1 xnd_MO_used_0 rfl rfl ?_
  refine xf_if_lt hX 4 rfl 25 xnd_MO_used_1 (by decide) (fun h1 => ?_) (fun h1 => ?_)
  · refine xf_iconst hX 26 rfl (0) xnd_MO_used_25 (by decide) ?_
    refine xf_zret hX hE xnd_MO_used_26 rfl ?_
    refine ⟨?_, rfl⟩
    simp only [xm_used, h1, if_true, if_false]
  · refine xf_iload_n hX 5 rfl 1 xnd_MO_used_4 rfl rfl ?_
    refine xf_aload_n hX 6 rfl 0 xnd_MO_used_5 rfl rfl ?_
    refine xg_MO_items hX 9 rfl xk_MO_66 xnd_MO_used_6 ?_
    refine xf_icmp_ge hX 12 rfl 25 xnd_MO_used_9 (by decide) (fun h9 => ?_) (fun h9 => ?_)
    · refine xf_iconst hX 26 rfl (0) xnd_MO_used_25 (by decide) ?_
      refine xf_zret hX hE xnd_MO_used_26 rfl ?_
      refine ⟨?_, rfl⟩
      simp only [xm_used, h1, h9, if_true, if_false]
    · refine xf_aload_n hX 13 rfl 0 xnd_MO_used_12 rfl rfl ?_
      refine xg_MO_taken hX 16 rfl xk_MO_13 xnd_MO_used_13 ?_
      refine xf_iload_n hX 17 rfl 1 xnd_MO_used_16 rfl rfl ?_
      have hi : vp_in i 32 := by
        have h8 := xm_lim (N := (xw_n P)) (by omega) h1 h9
        rw [vp_in_iff] at h8 ⊢
        omega
      refine xaM_baload hX 18 rfl rfl hi xnd_MO_used_17 ?_
      refine xf_if_eq hX 21 rfl 25 xnd_MO_used_18 (by decide) (fun h18 => ?_) (fun h18 => ?_)
      · refine xf_iconst hX 26 rfl (0) xnd_MO_used_25 (by decide) ?_
        refine xf_zret hX hE xnd_MO_used_26 rfl ?_
        refine ⟨?_, rfl⟩
        simp only [xm_used, h1, h9, eq_true h18, if_true, if_false]
      · refine xf_iconst hX 22 rfl (1) xnd_MO_used_21 (by decide) ?_
        refine xf_goto hX 26 xnd_MO_used_22 (by decide) ?_
        refine xf_zret hX hE xnd_MO_used_26 rfl ?_
        refine ⟨?_, rfl⟩
        simp only [xm_used, h1, h9, h18, if_true, if_false]

set_option maxRecDepth 100000 in
set_option maxHeartbeats 4000000 in
theorem xm_citem (P : xw_T) (σ τ : xf_T) (i k : Int32) (hn : 1 ≤ (xw_n P) ∧ (xw_n P) ≤ 32) : xf_F (xw_l P) xny_MO_item xnc_MO_item 3 (some .int) 0 0 (xw_W P) (xw_D P) (xw_ty P) [.ref (xw_a P 100), .int i, .int k] (σ, τ) (some (.int (xm_item (xw_n P) τ i k))) (σ, τ) := by
  refine xf_start (own := xnR_MO) [some (.ref (xw_a P 100)), some (.int i), some (.int k)] rfl (by decide) (Nat.le_of_ble_eq_true rfl) rfl (xf_cat rfl) ?_
  intro X hX hE
  refine xf_iload_n hX 1 rfl 1 xnd_MO_item_0 rfl rfl ?_
  refine xf_if_lt hX 4 rfl 21 xnd_MO_item_1 (by decide) (fun h1 => ?_) (fun h1 => ?_)
  · refine xf_iconst hX 22 rfl (0) xnd_MO_item_21 (by decide) ?_
    refine xf_iret hX hE xnd_MO_item_22 ?_
    refine ⟨?_, rfl⟩
    simp only [xm_item, xm_used, xm_10, h1, if_true, if_false]
  · refine xf_iload_n hX 5 rfl 1 xnd_MO_item_4 rfl rfl ?_
    refine xf_aload_n hX 6 rfl 0 xnd_MO_item_5 rfl rfl ?_
    refine xg_MO_items hX 9 rfl xk_MO_66 xnd_MO_item_6 ?_
    refine xf_icmp_ge hX 12 rfl 21 xnd_MO_item_9 (by decide) (fun h9 => ?_) (fun h9 => ?_)
    · refine xf_iconst hX 22 rfl (0) xnd_MO_item_21 (by decide) ?_
      refine xf_iret hX hE xnd_MO_item_22 ?_
      refine ⟨?_, rfl⟩
      simp only [xm_item, xm_used, xm_10, h1, h9, if_true, if_false]
    · refine xf_aload_n hX 13 rfl 0 xnd_MO_item_12 rfl rfl ?_
      refine xg_MO_taken hX 16 rfl xk_MO_13 xnd_MO_item_13 ?_
      refine xf_iload_n hX 17 rfl 1 xnd_MO_item_16 rfl rfl ?_
      have hi : vp_in i 32 := by
        have h8 := xm_lim (N := (xw_n P)) (by omega) h1 h9
        rw [vp_in_iff] at h8 ⊢
        omega
      refine xaM_baload hX 18 rfl rfl hi xnd_MO_item_17 ?_
      refine xf_if_ne hX 21 rfl 23 xnd_MO_item_18 (by decide) (fun h18 => ?_) (fun h18 => ?_)
      · refine xf_iload_n hX 24 rfl 2 xnd_MO_item_23 rfl rfl ?_
        by_cases c24_0 : k = 0
        · rw [c24_0]
          refine xf_tabIn hX 60 xnd_MO_item_24 (by decide) (by decide) rfl (by decide) ?_
          refine xf_aload_n hX 61 rfl 0 xnd_MO_item_60 rfl rfl ?_
          refine xg_MO_keys hX 64 rfl xk_MO_17 xnd_MO_item_61 ?_
          refine xf_iload_n hX 65 rfl 1 xnd_MO_item_64 rfl rfl ?_
          refine xaM_iaload hX 66 rfl rfl hi xnd_MO_item_65 ?_
          refine xf_iret hX hE xnd_MO_item_66 ?_
          refine ⟨?_, rfl⟩
          simp only [xm_item, xm_used, xm_10, h1, h9, h18, eq_true c24_0, if_true, if_false]
        by_cases c24_1 : k = 1
        · rw [c24_1]
          refine xf_tabIn hX 67 xnd_MO_item_24 (by decide) (by decide) rfl (by decide) ?_
          refine xf_aload_n hX 68 rfl 0 xnd_MO_item_67 rfl rfl ?_
          refine xg_MO_values hX 71 rfl xk_MO_20 xnd_MO_item_68 ?_
          refine xf_iload_n hX 72 rfl 1 xnd_MO_item_71 rfl rfl ?_
          refine xaM_iaload hX 73 rfl rfl hi xnd_MO_item_72 ?_
          refine xf_iret hX hE xnd_MO_item_73 ?_
          refine ⟨?_, rfl⟩
          simp only [xm_item, xm_used, xm_10, h1, h9, h18, c24_0, eq_true c24_1, if_true, if_false]
        by_cases c24_2 : k = 2
        · rw [c24_2]
          refine xf_tabIn hX 74 xnd_MO_item_24 (by decide) (by decide) rfl (by decide) ?_
          refine xf_aload_n hX 75 rfl 0 xnd_MO_item_74 rfl rfl ?_
          refine xg_MO_marks hX 78 rfl xk_MO_23 xnd_MO_item_75 ?_
          refine xf_iload_n hX 79 rfl 1 xnd_MO_item_78 rfl rfl ?_
          refine xaM_iaload hX 80 rfl rfl hi xnd_MO_item_79 ?_
          refine xf_iret hX hE xnd_MO_item_80 ?_
          refine ⟨?_, rfl⟩
          simp only [xm_item, xm_used, xm_10, h1, h9, h18, c24_0, c24_1, eq_true c24_2, if_true, if_false]
        by_cases c24_3 : k = 3
        · rw [c24_3]
          refine xf_tabIn hX 81 xnd_MO_item_24 (by decide) (by decide) rfl (by decide) ?_
          refine xf_aload_n hX 82 rfl 0 xnd_MO_item_81 rfl rfl ?_
          refine xg_MO_ends hX 85 rfl xk_MO_26 xnd_MO_item_82 ?_
          refine xf_iload_n hX 86 rfl 1 xnd_MO_item_85 rfl rfl ?_
          refine xaM_iaload hX 87 rfl rfl hi xnd_MO_item_86 ?_
          refine xf_iret hX hE xnd_MO_item_87 ?_
          refine ⟨?_, rfl⟩
          simp only [xm_item, xm_used, xm_10, h1, h9, h18, c24_0, c24_1, c24_2, eq_true c24_3, if_true, if_false]
        by_cases c24_4 : k = 4
        · rw [c24_4]
          refine xf_tabIn hX 88 xnd_MO_item_24 (by decide) (by decide) rfl (by decide) ?_
          refine xf_aload_n hX 89 rfl 0 xnd_MO_item_88 rfl rfl ?_
          refine xg_MO_bits hX 92 rfl xk_MO_29 xnd_MO_item_89 ?_
          refine xf_iload_n hX 93 rfl 1 xnd_MO_item_92 rfl rfl ?_
          refine xaM_baload hX 94 rfl rfl hi xnd_MO_item_93 ?_
          refine xf_if_eq hX 97 rfl 101 xnd_MO_item_94 (by decide) (fun h94 => ?_) (fun h94 => ?_)
          · refine xf_iconst hX 102 rfl (0) xnd_MO_item_101 (by decide) ?_
            refine xf_iret hX hE xnd_MO_item_102 ?_
            refine ⟨?_, rfl⟩
            simp only [xm_item, xm_used, xm_10, h1, h9, h18, c24_0, c24_1, c24_2, c24_3, eq_true c24_4, eq_true h94, if_true, if_false]
          · refine xf_iconst hX 98 rfl (1) xnd_MO_item_97 (by decide) ?_
            refine xf_goto hX 102 xnd_MO_item_98 (by decide) ?_
            refine xf_iret hX hE xnd_MO_item_102 ?_
            refine ⟨?_, rfl⟩
            simp only [xm_item, xm_used, xm_10, h1, h9, h18, c24_0, c24_1, c24_2, c24_3, eq_true c24_4, h94, if_true, if_false]
        have n0 := lv_neT c24_0 (by decide : ((0 : Int32)).toInt = 0)
        have n1 := lv_neT c24_1 (by decide : ((1 : Int32)).toInt = 1)
        have n2 := lv_neT c24_2 (by decide : ((2 : Int32)).toInt = 2)
        have n3 := lv_neT c24_3 (by decide : ((3 : Int32)).toInt = 3)
        have n4 := lv_neT c24_4 (by decide : ((4 : Int32)).toInt = 4)
        refine xf_tabOut hX 103 xnd_MO_item_24 (by omega) (by decide) ?_
        refine xf_iconst hX 104 rfl (0) xnd_MO_item_103 (by decide) ?_
        refine xf_iret hX hE xnd_MO_item_104 ?_
        refine ⟨?_, rfl⟩
        simp only [xm_item, xm_used, xm_10, h1, h9, h18, c24_0, c24_1, c24_2, c24_3, c24_4, if_true, if_false]
      · refine xf_iconst hX 22 rfl (0) xnd_MO_item_21 (by decide) ?_
        refine xf_iret hX hE xnd_MO_item_22 ?_
        refine ⟨?_, rfl⟩
        simp only [xm_item, xm_used, xm_10, h1, h9, eq_true h18, if_true, if_false]

set_option maxRecDepth 100000 in
set_option maxHeartbeats 4000000 in
theorem xm_cver (P : xw_T) (σ τ : xf_T) (k : Int32) : xf_F (xw_l P) xny_MO_version xnc_MO_version 2 (some .int) 0 0 (xw_W P) (xw_D P) (xw_ty P) [.ref (xw_a P 100), .int k] (σ, τ) (some (.int (xm_ver τ k))) (σ, τ) := by
  refine xf_start (own := xnR_MO) [some (.ref (xw_a P 100)), some (.int k)] rfl (by decide) (Nat.le_of_ble_eq_true rfl) rfl (xf_cat rfl) ?_
  intro X hX hE
  refine xf_iload_n hX 1 rfl 1 xnd_MO_version_0 rfl rfl ?_
  refine xf_if_lt hX 4 rfl 18 xnd_MO_version_1 (by decide) (fun h1 => ?_) (fun h1 => ?_)
  · refine xf_iconst hX 19 rfl (-1) xnd_MO_version_18 (by decide) ?_
    refine xf_iret hX hE xnd_MO_version_19 ?_
    refine ⟨?_, rfl⟩
    simp only [xm_ver, h1, if_true, if_false]
  · refine xf_iload_n hX 5 rfl 1 xnd_MO_version_4 rfl rfl ?_
    refine xf_iconst hX 6 rfl (3) xnd_MO_version_5 (by decide) ?_
    refine xf_icmp_gt hX 9 rfl 18 xnd_MO_version_6 (by decide) (fun h6 => ?_) (fun h6 => ?_)
    · refine xf_iconst hX 19 rfl (-1) xnd_MO_version_18 (by decide) ?_
      refine xf_iret hX hE xnd_MO_version_19 ?_
      refine ⟨?_, rfl⟩
      simp only [xm_ver, h1, h6, if_true, if_false]
    · refine xf_aload_n hX 10 rfl 0 xnd_MO_version_9 rfl rfl ?_
      refine xg_MO_versions hX 13 rfl xk_MO_32 xnd_MO_version_10 ?_
      refine xf_iload_n hX 14 rfl 1 xnd_MO_version_13 rfl rfl ?_
      have hi : vp_in k 4 := xm_lim (N := 4) (by omega) h1 (fun h9 => h6 (by
        obtain ⟨j, hj, rfl⟩ := nI_of h1
        rw [nI_leI (by omega) hj] at h9
        exact nI_lt (a := 3) (by omega) hj))
      refine xaM_iaload hX 15 rfl rfl hi xnd_MO_version_14 ?_
      refine xf_goto hX 19 xnd_MO_version_15 (by decide) ?_
      refine xf_iret hX hE xnd_MO_version_19 ?_
      refine ⟨?_, rfl⟩
      simp only [xm_ver, h1, h6, if_true, if_false]

set_option maxRecDepth 100000 in
set_option maxHeartbeats 4000000 in
theorem xm_ccount (P : xw_T) (σ τ : xf_T) (k : Int32) (hn : 1 ≤ (xw_n P) ∧ (xw_n P) ≤ 32) : xf_F (xw_l P) xny_MO_count xnc_MO_count 2 (some .int) 1 22 (xw_W P) (xw_D P) (xw_ty P) [.ref (xw_a P 100), .int k] (σ, τ) (some (.int (xm_count (xw_n P) τ k))) (σ, τ) := by
  refine xf_start (own := xnR_MO) [some (.ref (xw_a P 100)), some (.int k)] rfl (by decide) (Nat.le_of_ble_eq_true rfl) rfl (xf_cat rfl) ?_
  intro X hX hE
  refine xf_iload_n hX 1 rfl 1 xnd_MO_count_0 rfl rfl ?_
  by_cases c1_0 : k = 0
  · rw [c1_0]
    refine xf_tabIn hX 56 xnd_MO_count_1 (by decide) (by decide) rfl (by decide) ?_
    refine xf_aload_n hX 57 rfl 0 xnd_MO_count_56 rfl rfl ?_
    refine xf_V0i hX 60 rfl (xm_cmny P _ _ hn) xq_MO_many xk_MO_161 xrM_MO rfl rfl xnd_MO_count_57 ?_
    refine xf_iret hX hE xnd_MO_count_60 ?_
    refine ⟨?_, rfl⟩
    simp only [xm_count, eq_true c1_0, if_true, if_false]
  by_cases c1_1 : k = 1
  · rw [c1_1]
    refine xf_tabIn hX 61 xnd_MO_count_1 (by decide) (by decide) rfl (by decide) ?_
    refine xf_aload_n hX 62 rfl 0 xnd_MO_count_61 rfl rfl ?_
    refine xg_MO_evictions hX 65 rfl xk_MO_168 xnd_MO_count_62 ?_
    refine xf_iret hX hE xnd_MO_count_65 ?_
    refine ⟨?_, rfl⟩
    simp only [xm_count, c1_0, eq_true c1_1, if_true, if_false]
  by_cases c1_2 : k = 2
  · rw [c1_2]
    refine xf_tabIn hX 66 xnd_MO_count_1 (by decide) (by decide) rfl (by decide) ?_
    refine xf_aload_n hX 67 rfl 0 xnd_MO_count_66 rfl rfl ?_
    refine xg_MO_moves hX 70 rfl xk_MO_181 xnd_MO_count_67 ?_
    refine xf_iret hX hE xnd_MO_count_70 ?_
    refine ⟨?_, rfl⟩
    simp only [xm_count, c1_0, c1_1, eq_true c1_2, if_true, if_false]
  by_cases c1_3 : k = 3
  · rw [c1_3]
    refine xf_tabIn hX 71 xnd_MO_count_1 (by decide) (by decide) rfl (by decide) ?_
    refine xf_aload_n hX 72 rfl 0 xnd_MO_count_71 rfl rfl ?_
    refine xg_MO_allRetries hX 75 rfl xk_MO_209 xnd_MO_count_72 ?_
    refine xf_iret hX hE xnd_MO_count_75 ?_
    refine ⟨?_, rfl⟩
    simp only [xm_count, c1_0, c1_1, c1_2, eq_true c1_3, if_true, if_false]
  by_cases c1_4 : k = 4
  · rw [c1_4]
    refine xf_tabIn hX 76 xnd_MO_count_1 (by decide) (by decide) rfl (by decide) ?_
    refine xf_aload_n hX 77 rfl 0 xnd_MO_count_76 rfl rfl ?_
    refine xg_MO_waits hX 80 rfl xk_MO_206 xnd_MO_count_77 ?_
    refine xf_iret hX hE xnd_MO_count_80 ?_
    refine ⟨?_, rfl⟩
    simp only [xm_count, c1_0, c1_1, c1_2, c1_3, eq_true c1_4, if_true, if_false]
  by_cases c1_5 : k = 5
  · rw [c1_5]
    refine xf_tabIn hX 81 xnd_MO_count_1 (by decide) (by decide) rfl (by decide) ?_
    refine xf_aload_n hX 82 rfl 0 xnd_MO_count_81 rfl rfl ?_
    refine xg_MO_near hX 85 rfl xk_MO_90 xnd_MO_count_82 ?_
    refine xf_iret hX hE xnd_MO_count_85 ?_
    refine ⟨?_, rfl⟩
    simp only [xm_count, c1_0, c1_1, c1_2, c1_3, c1_4, eq_true c1_5, if_true, if_false]
  by_cases c1_6 : k = 6
  · rw [c1_6]
    refine xf_tabIn hX 86 xnd_MO_count_1 (by decide) (by decide) rfl (by decide) ?_
    refine xf_aload_n hX 87 rfl 0 xnd_MO_count_86 rfl rfl ?_
    refine xg_MO_dead hX 90 rfl xk_MO_158 xnd_MO_count_87 ?_
    refine xf_iret hX hE xnd_MO_count_90 ?_
    refine ⟨?_, rfl⟩
    simp only [xm_count, c1_0, c1_1, c1_2, c1_3, c1_4, c1_5, eq_true c1_6, if_true, if_false]
  by_cases c1_7 : k = 7
  · rw [c1_7]
    refine xf_tabIn hX 91 xnd_MO_count_1 (by decide) (by decide) rfl (by decide) ?_
    refine xf_aload_n hX 92 rfl 0 xnd_MO_count_91 rfl rfl ?_
    refine xg_MO_time hX 95 rfl xk_MO_96 xnd_MO_count_92 ?_
    refine xf_iret hX hE xnd_MO_count_95 ?_
    refine ⟨?_, rfl⟩
    simp only [xm_count, c1_0, c1_1, c1_2, c1_3, c1_4, c1_5, c1_6, eq_true c1_7, if_true, if_false]
  by_cases c1_8 : k = 8
  · rw [c1_8]
    refine xf_tabIn hX 96 xnd_MO_count_1 (by decide) (by decide) rfl (by decide) ?_
    refine xf_aload_n hX 97 rfl 0 xnd_MO_count_96 rfl rfl ?_
    refine xg_MO_hand hX 100 rfl xk_MO_165 xnd_MO_count_97 ?_
    refine xf_iret hX hE xnd_MO_count_100 ?_
    refine ⟨?_, rfl⟩
    simp only [xm_count, c1_0, c1_1, c1_2, c1_3, c1_4, c1_5, c1_6, c1_7, eq_true c1_8, if_true, if_false]
  by_cases c1_9 : k = 9
  · rw [c1_9]
    refine xf_tabIn hX 101 xnd_MO_count_1 (by decide) (by decide) rfl (by decide) ?_
    refine xf_aload_n hX 102 rfl 0 xnd_MO_count_101 rfl rfl ?_
    refine xg_MO_tokens hX 105 rfl xk_MO_145 xnd_MO_count_102 ?_
    refine xf_iret hX hE xnd_MO_count_105 ?_
    refine ⟨?_, rfl⟩
    simp only [xm_count, c1_0, c1_1, c1_2, c1_3, c1_4, c1_5, c1_6, c1_7, c1_8, eq_true c1_9, if_true, if_false]
  have n0 := lv_neT c1_0 (by decide : ((0 : Int32)).toInt = 0)
  have n1 := lv_neT c1_1 (by decide : ((1 : Int32)).toInt = 1)
  have n2 := lv_neT c1_2 (by decide : ((2 : Int32)).toInt = 2)
  have n3 := lv_neT c1_3 (by decide : ((3 : Int32)).toInt = 3)
  have n4 := lv_neT c1_4 (by decide : ((4 : Int32)).toInt = 4)
  have n5 := lv_neT c1_5 (by decide : ((5 : Int32)).toInt = 5)
  have n6 := lv_neT c1_6 (by decide : ((6 : Int32)).toInt = 6)
  have n7 := lv_neT c1_7 (by decide : ((7 : Int32)).toInt = 7)
  have n8 := lv_neT c1_8 (by decide : ((8 : Int32)).toInt = 8)
  have n9 := lv_neT c1_9 (by decide : ((9 : Int32)).toInt = 9)
  refine xf_tabOut hX 106 xnd_MO_count_1 (by omega) (by decide) ?_
  refine xf_iconst hX 107 rfl (-1) xnd_MO_count_106 (by decide) ?_
  refine xf_iret hX hE xnd_MO_count_107 ?_
  refine ⟨?_, rfl⟩
  simp only [xm_count, c1_0, c1_1, c1_2, c1_3, c1_4, c1_5, c1_6, c1_7, c1_8, c1_9, if_true, if_false]

