/-! Contracts of the class: the face. Laid by wip/gen/class10.py. -/
def xs_z (r : Int32) : Nat := 24 + 8 * r.toNatClampNeg
def xs_wOK (σ : xf_T) (kind life : Int32) : Int32 := if xs_uw σ = 0 then (if xs_isW kind 0 4 = 0 then 0 else if xs_isW life 0 1000 = 0 then 0 else 1) else 0
def xs_write (σ : xf_T) (kind key nv life kt : Int32) : xf_T := if xs_wOK σ kind life = 0 then σ else xs_begin σ kind key nv life kt
def xs_getB (σ : xf_T) (r : Int32) : Int32 := if xs_isW r 0 2 = 0 then 0 else if xs_isW (σ.1 (24 + 8 * r.toNatClampNeg)) 1 6 = 0 then 1 else 0
def xs_get (σ : xf_T) (r key : Int32) : xf_T := if xs_getB σ r = 0 then σ else xf_I (xf_I (xf_I σ (24 + 8 * r.toNatClampNeg + 3) key) (24 + 8 * r.toNatClampNeg + 4) 0) (24 + 8 * r.toNatClampNeg) 1
def xs_stB (σ : xf_T) (r : Int32) : Int32 := if xs_isW r 0 2 = 0 then 0 else xs_isW (σ.1 (24 + 8 * r.toNatClampNeg)) 1 6
def xs_step (w : Nat) (σ : xf_T) (r : Int32) : xf_T := if xs_stB σ r = 0 then σ else xs_goR w (24 + 8 * r.toNatClampNeg) σ
def xs_stepV (w : Nat) (σ : xf_T) (r : Int32) : Int32 := if xs_stB σ r = 0 then -1 else (xs_goR w (24 + 8 * r.toNatClampNeg) σ).1 (24 + 8 * r.toNatClampNeg)
def xs_state (σ : xf_T) (r : Int32) : Int32 := if xs_isW r 0 2 = 0 then -1 else σ.1 (24 + 8 * r.toNatClampNeg)
def xs_hitB (σ : xf_T) (r : Int32) : Int32 := if xs_isW r 0 2 = 0 then 0 else if σ.1 (24 + 8 * r.toNatClampNeg) = 7 then 1 else 0
def xs_value (σ : xf_T) (r : Int32) (k : Nat) : Int32 := if xs_hitB σ r = 0 then 0 else σ.1 (24 + 8 * r.toNatClampNeg + k)
def xs_passB (k : Int32) : Int32 := if xs_isW k 1 1000 = 0 then 0 else 1
def xs_pass (σ : xf_T) (k : Int32) : xf_T := if xs_isW k 1 1000 = 0 then σ else xf_I σ 7 (σ.1 7 + k)
def xs_atp (w : Nat) (σ : xf_T) (p : Int32) : Int32 := if xs_isW p 0 (nI (8 * w) - 1) = 0 then -1 else σ.2 5 p.toNatClampNeg
def xs_used (n : Nat) (σ : xf_T) (i : Int32) : Int32 := if xs_isW i 0 (nI n - 1) = 0 then 0 else if σ.2 11 i.toNatClampNeg = 0 then 0 else 1
def xs_item (n : Nat) (σ : xf_T) (i k : Int32) : Int32 := if xs_used n σ i = 0 then 0 else if k = 0 then σ.2 6 i.toNatClampNeg else if k = 1 then σ.2 7 i.toNatClampNeg else if k = 2 then σ.2 8 i.toNatClampNeg else if k = 3 then σ.2 9 i.toNatClampNeg else if k = 4 then (if σ.2 10 i.toNatClampNeg = 0 then 0 else 1) else 0
def xs_version (σ : xf_T) (k : Int32) : Int32 := if xs_isW k 0 3 = 0 then -1 else σ.2 12 k.toNatClampNeg
def xs_count (σ : xf_T) (k : Int32) : Int32 := if k = 0 then σ.1 6 else if k = 1 then σ.1 0 else if k = 2 then σ.1 1 else if k = 3 then σ.1 2 else if k = 4 then σ.1 3 else if k = 5 then σ.1 4 else if k = 6 then σ.1 5 else if k = 7 then σ.1 7 else if k = 8 then σ.1 10 else if k = 9 then σ.1 8 else -1
def xs_wk (n w : Nat) (σ : xf_T) (k : Int32) : xf_T × Int32 := if xs_isW k 1 50 = 0 then (σ, 0) else xs_work n w k.toNatClampNeg σ 0
theorem xs_isW_in {x : Int32} {N : Nat} (h0 : 0 < N) (hN : N < 2 ^ 31) (h : ¬ xs_isW x 0 (nI N - 1) = 0) : vp_in x N := by
  unfold xs_isW at h
  by_cases h1 : x < 0
  · rw [if_pos h1] at h; exact absurd rfl h
  · rw [if_neg h1] at h
    by_cases h2 : nI N - 1 < x
    · rw [if_pos h2] at h; exact absurd rfl h
    · obtain ⟨j, hj, rfl⟩ := nI_of h1
      rw [show nI N - 1 = nI (N - 1) from pk_sub (a := N) (b := 1) (by omega), nI_ltI (by omega) hj] at h2
      exact vp_in_nI (by omega) hN
theorem xs_used_z (n : Nat) (σ : xf_T) (i : Int32) : narrow .boolean (.int (xs_used n σ i)) = .int (xs_used n σ i) := by
  unfold xs_used
  split
  · rfl
  · split <;> rfl
theorem xs_used_in {n : Nat} (h0 : 0 < n) (hn : n ≤ 32) {σ : xf_T} {i : Int32} (h : ¬ xs_used n σ i = 0) : vp_in i n := by
  unfold xs_used at h
  by_cases h1 : xs_isW i 0 (nI n - 1) = 0
  · rw [if_pos h1] at h; exact absurd rfl h
  · exact xs_isW_in h0 (by omega) h1
set_option maxRecDepth 100000 in
set_option maxHeartbeats 4000000 in
theorem xc_write (P : xw_T) (σ τ : xf_T) (kind key nv life kt : Int32) : xf_F (xw_l P) xny_SC_write xnc_SC_write 6 (some .boolean) 1 25 (xw_W P) (xw_D P) (xw_ty P) [.ref (xw_a P 0), .int kind, .int key, .int nv, .int life, .int kt] (σ, τ) (some (.int (xs_wOK σ kind life))) (xs_write σ kind key nv life kt, τ) := by
  refine xf_start (own := xnR_SC) [some (.ref (xw_a P 0)), some (.int kind), some (.int key), some (.int nv), some (.int life), some (.int kt)] rfl (by decide) (Nat.le_of_ble_eq_true rfl) rfl (xf_cat rfl) ?_
  intro X hX hE
  refine xf_aload_n hX 1 rfl 0 xnd_SC_write_0 rfl rfl ?_
  refine xg_SC_writer hX 4 rfl xk_SC_34 xnd_SC_write_1 ?_
  refine xf_V0i hX 7 rfl (xc_uw P _ _) xq_WR_isUnderWay xk_SC_47 xrX_WR rfl rfl xnd_SC_write_4 ?_
  refine xf_if_ne hX 10 rfl 31 xnd_SC_write_7 (by decide) (fun h7 => ?_) (fun h7 => ?_)
  · refine xf_iconst hX 32 rfl (0) xnd_SC_write_31 (by decide) ?_
    refine xf_zret hX hE xnd_SC_write_32 rfl ?_
    have e9 : xs_wOK σ kind life = 0 := by simp only [xs_wOK, h7, if_true, if_false]
    exact ⟨by rw [e9], by unfold xs_write; rw [if_pos e9]⟩
  · refine xf_iload_n hX 11 rfl 1 xnd_SC_write_10 rfl rfl ?_
    refine xf_iconst hX 12 rfl (0) xnd_SC_write_11 (by decide) ?_
    refine xf_iconst hX 13 rfl (4) xnd_SC_write_12 (by decide) ?_
    refine xf_S3i hX 16 rfl (xc_isW P _ _ _ _ _) xq_SC_isWithin xk_SC_18 rfl rfl xnd_SC_write_13 ?_
    refine xf_if_eq hX 19 rfl 31 xnd_SC_write_16 (by decide) (fun h16 => ?_) (fun h16 => ?_)
    · refine xf_iconst hX 32 rfl (0) xnd_SC_write_31 (by decide) ?_
      refine xf_zret hX hE xnd_SC_write_32 rfl ?_
      have e9 : xs_wOK σ kind life = 0 := by simp only [xs_wOK, eq_true h7, eq_true h16, if_true, if_false]
      exact ⟨by rw [e9], by unfold xs_write; rw [if_pos e9]⟩
    · refine xf_iload hX 21 rfl xnd_SC_write_19 rfl ?_
      refine xf_iconst hX 22 rfl (0) xnd_SC_write_21 (by decide) ?_
      refine xf_sipush hX 25 rfl (1000) xnd_SC_write_22 (by decide) ?_
      refine xf_S3i hX 28 rfl (xc_isW P _ _ _ _ _) xq_SC_isWithin xk_SC_18 rfl rfl xnd_SC_write_25 ?_
      refine xf_if_ne hX 31 rfl 33 xnd_SC_write_28 (by decide) (fun h28 => ?_) (fun h28 => ?_)
      · refine xf_aload_n hX 34 rfl 0 xnd_SC_write_33 rfl rfl ?_
        refine xg_SC_writer hX 37 rfl xk_SC_34 xnd_SC_write_34 ?_
        refine xf_iload_n hX 38 rfl 1 xnd_SC_write_37 rfl rfl ?_
        refine xf_iload_n hX 39 rfl 2 xnd_SC_write_38 rfl rfl ?_
        refine xf_iload_n hX 40 rfl 3 xnd_SC_write_39 rfl rfl ?_
        refine xf_iload hX 42 rfl xnd_SC_write_40 rfl ?_
        refine xf_iload hX 44 rfl xnd_SC_write_42 rfl ?_
        refine xf_V5v hX 47 rfl (xc_wbegin P _ _ _ _ _ _ _) xq_WR_begin xk_SC_51 xrX_WR rfl rfl xnd_SC_write_44 ?_
        refine xf_iconst hX 48 rfl (1) xnd_SC_write_47 (by decide) ?_
        refine xf_zret hX hE xnd_SC_write_48 rfl ?_
        have e9 : xs_wOK σ kind life = 1 := by simp only [xs_wOK, eq_true h7, h16, h28, if_true, if_false]
        exact ⟨by rw [e9], by unfold xs_write; rw [e9, if_neg (by decide)]⟩
      · refine xf_iconst hX 32 rfl (0) xnd_SC_write_31 (by decide) ?_
        refine xf_zret hX hE xnd_SC_write_32 rfl ?_
        have e9 : xs_wOK σ kind life = 0 := by simp only [xs_wOK, eq_true h7, h16, eq_true h28, if_true, if_false]
        exact ⟨by rw [e9], by unfold xs_write; rw [if_pos e9]⟩

set_option maxRecDepth 100000 in
set_option maxHeartbeats 4000000 in
theorem xc_outcome (P : xw_T) (σ τ : xf_T) : xf_F (xw_l P) xny_SC_outcome xnc_SC_outcome 1 (some .int) 0 0 (xw_W P) (xw_D P) (xw_ty P) [.ref (xw_a P 0)] (σ, τ) (some (.int (σ.1 9))) (σ, τ) := by
  refine xf_start (own := xnR_SC) [some (.ref (xw_a P 0))] rfl (by decide) (Nat.le_of_ble_eq_true rfl) rfl (xf_cat rfl) ?_
  intro X hX hE
  refine xf_aload_n hX 1 rfl 0 xnd_SC_outcome_0 rfl rfl ?_
  refine xg_SC_writer hX 4 rfl xk_SC_34 xnd_SC_outcome_1 ?_
  refine xg_WR_outcome hX 7 rfl xk_SC_58 xnd_SC_outcome_4 ?_
  refine xf_iret hX hE xnd_SC_outcome_7 ?_
  exact ⟨rfl, rfl⟩

set_option maxRecDepth 100000 in
set_option maxHeartbeats 4000000 in
theorem xc_get (P : xw_T) (σ τ : xf_T) (r key : Int32) : xf_F (xw_l P) xny_SC_get xnc_SC_get 3 (some .boolean) 2 42 (xw_W P) (xw_D P) (xw_ty P) [.ref (xw_a P 0), .int r, .int key] (σ, τ) (some (.int (xs_getB σ r))) (xs_get σ r key, τ) := by
  refine xf_start (own := xnR_SC) [some (.ref (xw_a P 0)), some (.int r), some (.int key)] rfl (by decide) (Nat.le_of_ble_eq_true rfl) rfl (xf_cat rfl) ?_
  intro X hX hE
  refine xf_iload_n hX 1 rfl 1 xnd_SC_get_0 rfl rfl ?_
  refine xf_S1i hX 4 rfl (xc_isRd P _ _ _) xq_SC_isReader xk_SC_62 rfl rfl xnd_SC_get_1 ?_
  refine xf_if_eq hX 7 rfl 19 xnd_SC_get_4 (by decide) (fun h4 => ?_) (fun h4 => ?_)
  · refine xf_iconst hX 20 rfl (0) xnd_SC_get_19 (by decide) ?_
    refine xf_zret hX hE xnd_SC_get_20 rfl ?_
    have e9 : xs_getB σ r = 0 := by simp only [xs_getB, eq_true h4, if_true, if_false]
    exact ⟨by rw [e9], by unfold xs_get; rw [if_pos e9]⟩
  · have hr := (xs_rd3 h4).2
    refine xf_aload_n hX 8 rfl 0 xnd_SC_get_7 rfl rfl ?_
    refine xg_SC_readers hX 11 rfl xk_SC_40 xnd_SC_get_8 ?_
    refine xf_iload_n hX 12 rfl 1 xnd_SC_get_11 rfl rfl ?_
    refine xaX_aaload hX 13 rfl rfl (xs_rd3 h4).1 xnd_SC_get_12 ?_
    refine xf_V0i hX 16 rfl (xc_ruw P _ _ _ hr) xq_RD_isUnderWay xk_SC_66 (xrX_RD hr) rfl rfl xnd_SC_get_13 ?_
    refine xf_if_eq hX 19 rfl 21 xnd_SC_get_16 (by decide) (fun h16 => ?_) (fun h16 => ?_)
    · refine xf_aload_n hX 22 rfl 0 xnd_SC_get_21 rfl rfl ?_
      refine xg_SC_readers hX 25 rfl xk_SC_40 xnd_SC_get_22 ?_
      refine xf_iload_n hX 26 rfl 1 xnd_SC_get_25 rfl rfl ?_
      refine xaX_aaload hX 27 rfl rfl (xs_rd3 h4).1 xnd_SC_get_26 ?_
      refine xf_iload_n hX 28 rfl 2 xnd_SC_get_27 rfl rfl ?_
      refine xf_V1v hX 31 rfl (xc_rbegin P _ _ _ hr _) xq_RD_begin xk_SC_67 (xrX_RD hr) rfl rfl xnd_SC_get_28 ?_
      refine xf_iconst hX 32 rfl (1) xnd_SC_get_31 (by decide) ?_
      refine xf_zret hX hE xnd_SC_get_32 rfl ?_
      have e9 : xs_getB σ r = 1 := by simp only [xs_getB, h4, eq_true h16, if_true, if_false]
      exact ⟨by rw [e9], by unfold xs_get; rw [e9, if_neg (by decide)]⟩
    · refine xf_iconst hX 20 rfl (0) xnd_SC_get_19 (by decide) ?_
      refine xf_zret hX hE xnd_SC_get_20 rfl ?_
      have e9 : xs_getB σ r = 0 := by simp only [xs_getB, h4, h16, if_true, if_false]
      exact ⟨by rw [e9], by unfold xs_get; rw [if_pos e9]⟩

set_option maxRecDepth 100000 in
set_option maxHeartbeats 4000000 in
theorem xc_step (P : xw_T) (σ τ : xf_T) (r : Int32) (hk : ∀ q, q < 3 → xs_okR (xw_n P) (xw_w P) (24 + 8 * q) σ) : xf_F (xw_l P) xny_SC_step xnc_SC_step 2 (some .int) 7 144 (xw_W P) (xw_D P) (xw_ty P) [.ref (xw_a P 0), .int r] (σ, τ) (some (.int (xs_stepV (xw_w P) σ r))) (xs_step (xw_w P) σ r, τ) := by
  refine xf_start (own := xnR_SC) [some (.ref (xw_a P 0)), some (.int r)] rfl (by decide) (Nat.le_of_ble_eq_true rfl) rfl (xf_cat rfl) ?_
  intro X hX hE
  refine xf_iload_n hX 1 rfl 1 xnd_SC_step_0 rfl rfl ?_
  refine xf_S1i hX 4 rfl (xc_isRd P _ _ _) xq_SC_isReader xk_SC_62 rfl rfl xnd_SC_step_1 ?_
  refine xf_if_eq hX 7 rfl 19 xnd_SC_step_4 (by decide) (fun h4 => ?_) (fun h4 => ?_)
  · refine xf_iconst hX 20 rfl (-1) xnd_SC_step_19 (by decide) ?_
    refine xf_iret hX hE xnd_SC_step_20 ?_
    refine ⟨?_, ?_⟩ <;> simp only [xs_stepV, xs_step, xs_stB, eq_true h4, if_true, if_false]
  · have hr := (xs_rd3 h4).2
    refine xf_aload_n hX 8 rfl 0 xnd_SC_step_7 rfl rfl ?_
    refine xg_SC_readers hX 11 rfl xk_SC_40 xnd_SC_step_8 ?_
    refine xf_iload_n hX 12 rfl 1 xnd_SC_step_11 rfl rfl ?_
    refine xaX_aaload hX 13 rfl rfl (xs_rd3 h4).1 xnd_SC_step_12 ?_
    refine xf_V0i hX 16 rfl (xc_ruw P _ _ _ hr) xq_RD_isUnderWay xk_SC_66 (xrX_RD hr) rfl rfl xnd_SC_step_13 ?_
    refine xf_if_ne hX 19 rfl 21 xnd_SC_step_16 (by decide) (fun h16 => ?_) (fun h16 => ?_)
    · refine xf_aload_n hX 22 rfl 0 xnd_SC_step_21 rfl rfl ?_
      refine xg_SC_readers hX 25 rfl xk_SC_40 xnd_SC_step_22 ?_
      refine xf_iload_n hX 26 rfl 1 xnd_SC_step_25 rfl rfl ?_
      refine xaX_aaload hX 27 rfl rfl (xs_rd3 h4).1 xnd_SC_step_26 ?_
      refine xf_V0v hX 30 rfl (xc_goR P _ _ _ hr (hk _ hr)) xq_RD_goOn xk_SC_70 (xrX_RD hr) rfl rfl xnd_SC_step_27 ?_
      refine xf_aload_n hX 31 rfl 0 xnd_SC_step_30 rfl rfl ?_
      refine xg_SC_readers hX 34 rfl xk_SC_40 xnd_SC_step_31 ?_
      refine xf_iload_n hX 35 rfl 1 xnd_SC_step_34 rfl rfl ?_
      refine xaX_aaload hX 36 rfl rfl (xs_rd3 h4).1 xnd_SC_step_35 ?_
      refine xg_RD_state hX 39 rfl hr xk_SC_71 xnd_SC_step_36 ?_
      refine xf_iret hX hE xnd_SC_step_39 ?_
      refine ⟨?_, ?_⟩ <;> simp only [xs_stepV, xs_step, xs_stB, h4, h16, if_true, if_false]
    · refine xf_iconst hX 20 rfl (-1) xnd_SC_step_19 (by decide) ?_
      refine xf_iret hX hE xnd_SC_step_20 ?_
      refine ⟨?_, ?_⟩ <;> simp only [xs_stepV, xs_step, xs_stB, h4, eq_true h16, if_true, if_false]

set_option maxRecDepth 100000 in
set_option maxHeartbeats 4000000 in
theorem xc_state (P : xw_T) (σ τ : xf_T) (r : Int32) : xf_F (xw_l P) xny_SC_state xnc_SC_state 2 (some .int) 2 42 (xw_W P) (xw_D P) (xw_ty P) [.ref (xw_a P 0), .int r] (σ, τ) (some (.int (xs_state σ r))) (σ, τ) := by
  refine xf_start (own := xnR_SC) [some (.ref (xw_a P 0)), some (.int r)] rfl (by decide) (Nat.le_of_ble_eq_true rfl) rfl (xf_cat rfl) ?_
  intro X hX hE
  refine xf_iload_n hX 1 rfl 1 xnd_SC_state_0 rfl rfl ?_
  refine xf_S1i hX 4 rfl (xc_isRd P _ _ _) xq_SC_isReader xk_SC_62 rfl rfl xnd_SC_state_1 ?_
  refine xf_if_eq hX 7 rfl 19 xnd_SC_state_4 (by decide) (fun h4 => ?_) (fun h4 => ?_)
  · refine xf_iconst hX 20 rfl (-1) xnd_SC_state_19 (by decide) ?_
    refine xf_iret hX hE xnd_SC_state_20 ?_
    refine ⟨?_, rfl⟩
    simp only [xs_state, eq_true h4, if_true, if_false]
  · have hr := (xs_rd3 h4).2
    refine xf_aload_n hX 8 rfl 0 xnd_SC_state_7 rfl rfl ?_
    refine xg_SC_readers hX 11 rfl xk_SC_40 xnd_SC_state_8 ?_
    refine xf_iload_n hX 12 rfl 1 xnd_SC_state_11 rfl rfl ?_
    refine xaX_aaload hX 13 rfl rfl (xs_rd3 h4).1 xnd_SC_state_12 ?_
    refine xg_RD_state hX 16 rfl hr xk_SC_71 xnd_SC_state_13 ?_
    refine xf_goto hX 20 xnd_SC_state_16 (by decide) ?_
    refine xf_iret hX hE xnd_SC_state_20 ?_
    refine ⟨?_, rfl⟩
    simp only [xs_state, h4, if_true, if_false]

set_option maxRecDepth 100000 in
set_option maxHeartbeats 4000000 in
theorem xc_isHit (P : xw_T) (σ τ : xf_T) (r : Int32) : xf_F (xw_l P) xny_SC_isHit xnc_SC_isHit 2 (some .boolean) 2 42 (xw_W P) (xw_D P) (xw_ty P) [.ref (xw_a P 0), .int r] (σ, τ) (some (.int (xs_hitB σ r))) (σ, τ) := by
  refine xf_start (own := xnR_SC) [some (.ref (xw_a P 0)), some (.int r)] rfl (by decide) (Nat.le_of_ble_eq_true rfl) rfl (xf_cat rfl) ?_
  intro X hX hE
  refine xf_iload_n hX 1 rfl 1 xnd_SC_isHit_0 rfl rfl ?_
  refine xf_S1i hX 4 rfl (xc_isRd P _ _ _) xq_SC_isReader xk_SC_62 rfl rfl xnd_SC_isHit_1 ?_
  refine xf_if_eq hX 7 rfl 25 xnd_SC_isHit_4 (by decide) (fun h4 => ?_) (fun h4 => ?_)
  · refine xf_iconst hX 26 rfl (0) xnd_SC_isHit_25 (by decide) ?_
    refine xf_zret hX hE xnd_SC_isHit_26 rfl ?_
    refine ⟨?_, rfl⟩
    simp only [xs_hitB, eq_true h4, if_true, if_false]
  · have hr := (xs_rd3 h4).2
    refine xf_aload_n hX 8 rfl 0 xnd_SC_isHit_7 rfl rfl ?_
    refine xg_SC_readers hX 11 rfl xk_SC_40 xnd_SC_isHit_8 ?_
    refine xf_iload_n hX 12 rfl 1 xnd_SC_isHit_11 rfl rfl ?_
    refine xaX_aaload hX 13 rfl rfl (xs_rd3 h4).1 xnd_SC_isHit_12 ?_
    refine xg_RD_state hX 16 rfl hr xk_SC_71 xnd_SC_isHit_13 ?_
    refine xf_bipush hX 18 rfl (7) xnd_SC_isHit_16 (by decide) ?_
    refine xf_icmp_ne hX 21 rfl 25 xnd_SC_isHit_18 (by decide) (fun h18 => ?_) (fun h18 => ?_)
    · refine xf_iconst hX 26 rfl (0) xnd_SC_isHit_25 (by decide) ?_
      refine xf_zret hX hE xnd_SC_isHit_26 rfl ?_
      refine ⟨?_, rfl⟩
      simp only [xs_hitB, h4, h18, if_true, if_false]
    · refine xf_iconst hX 22 rfl (1) xnd_SC_isHit_21 (by decide) ?_
      refine xf_goto hX 26 xnd_SC_isHit_22 (by decide) ?_
      refine xf_zret hX hE xnd_SC_isHit_26 rfl ?_
      refine ⟨?_, rfl⟩
      simp only [xs_hitB, h4, eq_true h18, if_true, if_false]

theorem xs_hitB_rd {σ : xf_T} {r : Int32} (h : ¬ xs_hitB σ r = 0) : vp_in r 3 ∧ r.toNatClampNeg < 3 := by
  unfold xs_hitB at h
  by_cases h1 : xs_isW r 0 2 = 0
  · rw [if_pos h1] at h; exact absurd rfl h
  · exact xs_rd3 h1
set_option maxRecDepth 100000 in
set_option maxHeartbeats 4000000 in
theorem xc_value (P : xw_T) (σ τ : xf_T) (r : Int32) : xf_F (xw_l P) xny_SC_value xnc_SC_value 2 (some .int) 3 63 (xw_W P) (xw_D P) (xw_ty P) [.ref (xw_a P 0), .int r] (σ, τ) (some (.int (xs_value σ r 1))) (σ, τ) := by
  refine xf_start (own := xnR_SC) [some (.ref (xw_a P 0)), some (.int r)] rfl (by decide) (Nat.le_of_ble_eq_true rfl) rfl (xf_cat rfl) ?_
  intro X hX hE
  refine xf_aload_n hX 1 rfl 0 xnd_SC_value_0 rfl rfl ?_
  refine xf_iload_n hX 2 rfl 1 xnd_SC_value_1 rfl rfl ?_
  refine xf_V1i hX 5 rfl (xc_isHit P _ _ _) xq_SC_isHit xk_SC_74 xrX_SC rfl rfl xnd_SC_value_2 ?_
  refine xf_if_eq hX 8 rfl 20 xnd_SC_value_5 (by decide) (fun h5 => ?_) (fun h5 => ?_)
  · refine xf_iconst hX 21 rfl (0) xnd_SC_value_20 (by decide) ?_
    refine xf_iret hX hE xnd_SC_value_21 ?_
    refine ⟨?_, rfl⟩
    simp only [xs_value, eq_true h5, if_true, if_false]
  · have hr := (xs_hitB_rd h5).2
    refine xf_aload_n hX 9 rfl 0 xnd_SC_value_8 rfl rfl ?_
    refine xg_SC_readers hX 12 rfl xk_SC_40 xnd_SC_value_9 ?_
    refine xf_iload_n hX 13 rfl 1 xnd_SC_value_12 rfl rfl ?_
    refine xaX_aaload hX 14 rfl rfl (xs_hitB_rd h5).1 xnd_SC_value_13 ?_
    refine xg_RD_copiedValue hX 17 rfl hr xk_SC_77 xnd_SC_value_14 ?_
    refine xf_goto hX 21 xnd_SC_value_17 (by decide) ?_
    refine xf_iret hX hE xnd_SC_value_21 ?_
    refine ⟨?_, rfl⟩
    simp only [xs_value, h5, if_true, if_false]

set_option maxRecDepth 100000 in
set_option maxHeartbeats 4000000 in
theorem xc_token (P : xw_T) (σ τ : xf_T) (r : Int32) : xf_F (xw_l P) xny_SC_token xnc_SC_token 2 (some .int) 3 63 (xw_W P) (xw_D P) (xw_ty P) [.ref (xw_a P 0), .int r] (σ, τ) (some (.int (xs_value σ r 2))) (σ, τ) := by
  refine xf_start (own := xnR_SC) [some (.ref (xw_a P 0)), some (.int r)] rfl (by decide) (Nat.le_of_ble_eq_true rfl) rfl (xf_cat rfl) ?_
  intro X hX hE
  refine xf_aload_n hX 1 rfl 0 xnd_SC_token_0 rfl rfl ?_
  refine xf_iload_n hX 2 rfl 1 xnd_SC_token_1 rfl rfl ?_
  refine xf_V1i hX 5 rfl (xc_isHit P _ _ _) xq_SC_isHit xk_SC_74 xrX_SC rfl rfl xnd_SC_token_2 ?_
  refine xf_if_eq hX 8 rfl 20 xnd_SC_token_5 (by decide) (fun h5 => ?_) (fun h5 => ?_)
  · refine xf_iconst hX 21 rfl (0) xnd_SC_token_20 (by decide) ?_
    refine xf_iret hX hE xnd_SC_token_21 ?_
    refine ⟨?_, rfl⟩
    simp only [xs_value, eq_true h5, if_true, if_false]
  · have hr := (xs_hitB_rd h5).2
    refine xf_aload_n hX 9 rfl 0 xnd_SC_token_8 rfl rfl ?_
    refine xg_SC_readers hX 12 rfl xk_SC_40 xnd_SC_token_9 ?_
    refine xf_iload_n hX 13 rfl 1 xnd_SC_token_12 rfl rfl ?_
    refine xaX_aaload hX 14 rfl rfl (xs_hitB_rd h5).1 xnd_SC_token_13 ?_
    refine xg_RD_copiedToken hX 17 rfl hr xk_SC_80 xnd_SC_token_14 ?_
    refine xf_goto hX 21 xnd_SC_token_17 (by decide) ?_
    refine xf_iret hX hE xnd_SC_token_21 ?_
    refine ⟨?_, rfl⟩
    simp only [xs_value, h5, if_true, if_false]

set_option maxRecDepth 100000 in
set_option maxHeartbeats 4000000 in
theorem xc_pass (P : xw_T) (σ τ : xf_T) (k : Int32) : xf_F (xw_l P) xny_SC_pass xnc_SC_pass 2 (some .boolean) 1 22 (xw_W P) (xw_D P) (xw_ty P) [.ref (xw_a P 0), .int k] (σ, τ) (some (.int (xs_passB k))) (xs_pass σ k, τ) := by
  refine xf_start (own := xnR_SC) [some (.ref (xw_a P 0)), some (.int k)] rfl (by decide) (Nat.le_of_ble_eq_true rfl) rfl (xf_cat rfl) ?_
  intro X hX hE
  refine xf_iload_n hX 1 rfl 1 xnd_SC_pass_0 rfl rfl ?_
  refine xf_iconst hX 2 rfl (1) xnd_SC_pass_1 (by decide) ?_
  refine xf_sipush hX 5 rfl (1000) xnd_SC_pass_2 (by decide) ?_
  refine xf_S3i hX 8 rfl (xc_isW P _ _ _ _ _) xq_SC_isWithin xk_SC_18 rfl rfl xnd_SC_pass_5 ?_
  refine xf_if_ne hX 11 rfl 13 xnd_SC_pass_8 (by decide) (fun h8 => ?_) (fun h8 => ?_)
  · refine xf_aload_n hX 14 rfl 0 xnd_SC_pass_13 rfl rfl ?_
    refine xg_SC_store hX 17 rfl xk_SC_25 xnd_SC_pass_14 ?_
    refine xf_dup hX 18 rfl xnd_SC_pass_17 rfl ?_
    refine xg_ST_time hX 21 rfl xk_SC_83 xnd_SC_pass_18 ?_
    refine xf_iload_n hX 22 rfl 1 xnd_SC_pass_21 rfl rfl ?_
    refine xf_iadd hX 23 rfl xnd_SC_pass_22 ?_
    refine xp_ST_time hX 26 rfl xk_SC_83 xnd_SC_pass_23 ?_
    refine xf_iconst hX 27 rfl (1) xnd_SC_pass_26 (by decide) ?_
    refine xf_zret hX hE xnd_SC_pass_27 rfl ?_
    refine ⟨?_, ?_⟩ <;> simp only [xs_passB, xs_pass, h8, if_true, if_false]
  · refine xf_iconst hX 12 rfl (0) xnd_SC_pass_11 (by decide) ?_
    refine xf_zret hX hE xnd_SC_pass_12 rfl ?_
    refine ⟨?_, ?_⟩ <;> simp only [xs_passB, xs_pass, eq_true h8, if_true, if_false]

set_option maxRecDepth 100000 in
set_option maxHeartbeats 4000000 in
theorem xc_where (P : xw_T) (σ τ : xf_T) (key : Int32) (ho : xs_okP (xw_n P) (xw_w P) σ) : xf_F (xw_l P) xny_SC_where xnc_SC_where 2 (some .int) 5 103 (xw_W P) (xw_D P) (xw_ty P) [.ref (xw_a P 0), .int key] (σ, τ) (some (.int (xs_find (xw_w P) σ key))) (σ, τ) := by
  refine xf_start (own := xnR_SC) [some (.ref (xw_a P 0)), some (.int key)] rfl (by decide) (Nat.le_of_ble_eq_true rfl) rfl (xf_cat rfl) ?_
  intro X hX hE
  refine xf_aload_n hX 1 rfl 0 xnd_SC_where_0 rfl rfl ?_
  refine xg_SC_store hX 4 rfl xk_SC_25 xnd_SC_where_1 ?_
  refine xf_iload_n hX 5 rfl 1 xnd_SC_where_4 rfl rfl ?_
  refine xf_V1i hX 8 rfl (xc_find P _ _ _ ho) xq_ST_find xk_SC_86 xrX_ST rfl rfl xnd_SC_where_5 ?_
  refine xf_iret hX hE xnd_SC_where_8 ?_
  exact ⟨rfl, rfl⟩

set_option maxRecDepth 100000 in
set_option maxHeartbeats 4000000 in
theorem xc_at (P : xw_T) (σ τ : xf_T) (p : Int32) (hw : 1 ≤ (xw_w P) ∧ (xw_w P) ≤ 4) : xf_F (xw_l P) xny_SC_at xnc_SC_at 2 (some .int) 1 22 (xw_W P) (xw_D P) (xw_ty P) [.ref (xw_a P 0), .int p] (σ, τ) (some (.int (xs_atp (xw_w P) σ p))) (σ, τ) := by
  refine xf_start (own := xnR_SC) [some (.ref (xw_a P 0)), some (.int p)] rfl (by decide) (Nat.le_of_ble_eq_true rfl) rfl (xf_cat rfl) ?_
  intro X hX hE
  refine xf_iload_n hX 1 rfl 1 xnd_SC_at_0 rfl rfl ?_
  refine xf_iconst hX 2 rfl (0) xnd_SC_at_1 (by decide) ?_
  refine xf_aload_n hX 3 rfl 0 xnd_SC_at_2 rfl rfl ?_
  refine xg_SC_store hX 6 rfl xk_SC_25 xnd_SC_at_3 ?_
  refine xg_ST_places hX 9 rfl xk_SC_90 xnd_SC_at_6 ?_
  refine xaX_alen hX 10 rfl rfl xnd_SC_at_9 ?_
  change xf_V X 10 _ (.int (nI (8 * xw_w P)) :: _) _
  refine xf_iconst hX 11 rfl (1) xnd_SC_at_10 (by decide) ?_
  refine xf_isub hX 12 rfl xnd_SC_at_11 ?_
  refine xf_S3i hX 15 rfl (xc_isW P _ _ _ _ _) xq_SC_isWithin xk_SC_18 rfl rfl xnd_SC_at_12 ?_
  refine xf_if_eq hX 18 rfl 30 xnd_SC_at_15 (by decide) (fun h15 => ?_) (fun h15 => ?_)
  · refine xf_iconst hX 31 rfl (-1) xnd_SC_at_30 (by decide) ?_
    refine xf_iret hX hE xnd_SC_at_31 ?_
    refine ⟨?_, rfl⟩
    simp only [xs_atp, eq_true h15, if_true, if_false]
  · refine xf_aload_n hX 19 rfl 0 xnd_SC_at_18 rfl rfl ?_
    refine xg_SC_store hX 22 rfl xk_SC_25 xnd_SC_at_19 ?_
    refine xg_ST_places hX 25 rfl xk_SC_90 xnd_SC_at_22 ?_
    refine xf_iload_n hX 26 rfl 1 xnd_SC_at_25 rfl rfl ?_
    refine xaX_iaload hX 27 rfl rfl (show vp_in _ (8 * xw_w P) from xs_isW_in (by omega) (by omega) h15) xnd_SC_at_26 ?_
    refine xf_goto hX 31 xnd_SC_at_27 (by decide) ?_
    refine xf_iret hX hE xnd_SC_at_31 ?_
    refine ⟨?_, rfl⟩
    simp only [xs_atp, h15, if_true, if_false]

set_option maxRecDepth 100000 in
set_option maxHeartbeats 4000000 in
theorem xc_isUsed (P : xw_T) (σ τ : xf_T) (i : Int32) (hn : 1 ≤ (xw_n P) ∧ (xw_n P) ≤ 32) : xf_F (xw_l P) xny_SC_isUsedItem xnc_SC_isUsedItem 2 (some .boolean) 1 22 (xw_W P) (xw_D P) (xw_ty P) [.ref (xw_a P 0), .int i] (σ, τ) (some (.int (xs_used (xw_n P) σ i))) (σ, τ) := by
  refine xf_start (own := xnR_SC) [some (.ref (xw_a P 0)), some (.int i)] rfl (by decide) (Nat.le_of_ble_eq_true rfl) rfl (xf_cat rfl) ?_
  intro X hX hE
  refine xf_iload_n hX 1 rfl 1 xnd_SC_isUsedItem_0 rfl rfl ?_
  refine xf_iconst hX 2 rfl (0) xnd_SC_isUsedItem_1 (by decide) ?_
  refine xf_aload_n hX 3 rfl 0 xnd_SC_isUsedItem_2 rfl rfl ?_
  refine xg_SC_store hX 6 rfl xk_SC_25 xnd_SC_isUsedItem_3 ?_
  refine xg_ST_capacity hX 9 rfl xk_SC_155 xnd_SC_isUsedItem_6 ?_
  refine xf_iconst hX 10 rfl (1) xnd_SC_isUsedItem_9 (by decide) ?_
  refine xf_isub hX 11 rfl xnd_SC_isUsedItem_10 ?_
  refine xf_S3i hX 14 rfl (xc_isW P _ _ _ _ _) xq_SC_isWithin xk_SC_18 rfl rfl xnd_SC_isUsedItem_11 ?_
  refine xf_if_eq hX 17 rfl 33 xnd_SC_isUsedItem_14 (by decide) (fun h14 => ?_) (fun h14 => ?_)
  · refine xf_iconst hX 34 rfl (0) xnd_SC_isUsedItem_33 (by decide) ?_
    refine xf_zret hX hE xnd_SC_isUsedItem_34 rfl ?_
    refine ⟨?_, rfl⟩
    simp only [xs_used, eq_true h14, if_true, if_false]
  · refine xf_aload_n hX 18 rfl 0 xnd_SC_isUsedItem_17 rfl rfl ?_
    refine xg_SC_store hX 21 rfl xk_SC_25 xnd_SC_isUsedItem_18 ?_
    refine xg_ST_usedFlags hX 24 rfl xk_SC_158 xnd_SC_isUsedItem_21 ?_
    refine xf_iload_n hX 25 rfl 1 xnd_SC_isUsedItem_24 rfl rfl ?_
    refine xaX_baload hX 26 rfl rfl (show vp_in _ (xw_n P) from xs_isW_in (by omega) (by omega) h14) xnd_SC_isUsedItem_25 ?_
    refine xf_if_eq hX 29 rfl 33 xnd_SC_isUsedItem_26 (by decide) (fun h26 => ?_) (fun h26 => ?_)
    · refine xf_iconst hX 34 rfl (0) xnd_SC_isUsedItem_33 (by decide) ?_
      refine xf_zret hX hE xnd_SC_isUsedItem_34 rfl ?_
      refine ⟨?_, rfl⟩
      simp only [xs_used, h14, eq_true h26, if_true, if_false]
    · refine xf_iconst hX 30 rfl (1) xnd_SC_isUsedItem_29 (by decide) ?_
      refine xf_goto hX 34 xnd_SC_isUsedItem_30 (by decide) ?_
      refine xf_zret hX hE xnd_SC_isUsedItem_34 rfl ?_
      refine ⟨?_, rfl⟩
      simp only [xs_used, h14, h26, if_true, if_false]

set_option maxRecDepth 100000 in
set_option maxHeartbeats 4000000 in
theorem xc_used (P : xw_T) (σ τ : xf_T) (i : Int32) (hn : 1 ≤ (xw_n P) ∧ (xw_n P) ≤ 32) : xf_F (xw_l P) xny_SC_used xnc_SC_used 2 (some .boolean) 2 43 (xw_W P) (xw_D P) (xw_ty P) [.ref (xw_a P 0), .int i] (σ, τ) (some (.int (xs_used (xw_n P) σ i))) (σ, τ) := by
  refine xf_start (own := xnR_SC) [some (.ref (xw_a P 0)), some (.int i)] rfl (by decide) (Nat.le_of_ble_eq_true rfl) rfl (xf_cat rfl) ?_
  intro X hX hE
  refine xf_aload_n hX 1 rfl 0 xnd_SC_used_0 rfl rfl ?_
  refine xf_iload_n hX 2 rfl 1 xnd_SC_used_1 rfl rfl ?_
  refine xf_V1i hX 5 rfl (xc_isUsed P _ _ _ hn) xq_SC_isUsedItem xk_SC_94 xrX_SC rfl rfl xnd_SC_used_2 ?_
  refine xf_zret hX hE xnd_SC_used_5 (xs_used_z _ _ _) ?_
  exact ⟨rfl, rfl⟩

set_option maxRecDepth 100000 in
set_option maxHeartbeats 4000000 in
theorem xc_item (P : xw_T) (σ τ : xf_T) (i k : Int32) (hn : 1 ≤ (xw_n P) ∧ (xw_n P) ≤ 32) : xf_F (xw_l P) xny_SC_item xnc_SC_item 3 (some .int) 2 43 (xw_W P) (xw_D P) (xw_ty P) [.ref (xw_a P 0), .int i, .int k] (σ, τ) (some (.int (xs_item (xw_n P) σ i k))) (σ, τ) := by
  refine xf_start (own := xnR_SC) [some (.ref (xw_a P 0)), some (.int i), some (.int k)] rfl (by decide) (Nat.le_of_ble_eq_true rfl) rfl (xf_cat rfl) ?_
  intro X hX hE
  refine xf_aload_n hX 1 rfl 0 xnd_SC_item_0 rfl rfl ?_
  refine xf_iload_n hX 2 rfl 1 xnd_SC_item_1 rfl rfl ?_
  refine xf_V1i hX 5 rfl (xc_isUsed P _ _ _ hn) xq_SC_isUsedItem xk_SC_94 xrX_SC rfl rfl xnd_SC_item_2 ?_
  refine xf_if_ne hX 8 rfl 10 xnd_SC_item_5 (by decide) (fun h5 => ?_) (fun h5 => ?_)
  · have hi := xs_used_in (by omega) (by omega) h5
    refine xf_iload_n hX 11 rfl 2 xnd_SC_item_10 rfl rfl ?_
    by_cases c11_0 : k = 0
    · rw [c11_0]
      refine xf_tabIn hX 44 xnd_SC_item_11 (by decide) (by decide) rfl (by decide) ?_
      refine xf_aload_n hX 45 rfl 0 xnd_SC_item_44 rfl rfl ?_
      refine xg_SC_store hX 48 rfl xk_SC_25 xnd_SC_item_45 ?_
      refine xg_ST_keys hX 51 rfl xk_SC_97 xnd_SC_item_48 ?_
      refine xf_iload_n hX 52 rfl 1 xnd_SC_item_51 rfl rfl ?_
      refine xaX_iaload hX 53 rfl rfl (show vp_in _ (xw_n P) from hi) xnd_SC_item_52 ?_
      refine xf_iret hX hE xnd_SC_item_53 ?_
      refine ⟨?_, rfl⟩
      simp only [xs_item, h5, eq_true c11_0, if_true, if_false]
    by_cases c11_1 : k = 1
    · rw [c11_1]
      refine xf_tabIn hX 54 xnd_SC_item_11 (by decide) (by decide) rfl (by decide) ?_
      refine xf_aload_n hX 55 rfl 0 xnd_SC_item_54 rfl rfl ?_
      refine xg_SC_store hX 58 rfl xk_SC_25 xnd_SC_item_55 ?_
      refine xg_ST_values hX 61 rfl xk_SC_100 xnd_SC_item_58 ?_
      refine xf_iload_n hX 62 rfl 1 xnd_SC_item_61 rfl rfl ?_
      refine xaX_iaload hX 63 rfl rfl (show vp_in _ (xw_n P) from hi) xnd_SC_item_62 ?_
      refine xf_iret hX hE xnd_SC_item_63 ?_
      refine ⟨?_, rfl⟩
      simp only [xs_item, h5, c11_0, eq_true c11_1, if_true, if_false]
    by_cases c11_2 : k = 2
    · rw [c11_2]
      refine xf_tabIn hX 64 xnd_SC_item_11 (by decide) (by decide) rfl (by decide) ?_
      refine xf_aload_n hX 65 rfl 0 xnd_SC_item_64 rfl rfl ?_
      refine xg_SC_store hX 68 rfl xk_SC_25 xnd_SC_item_65 ?_
      refine xg_ST_tokens hX 71 rfl xk_SC_103 xnd_SC_item_68 ?_
      refine xf_iload_n hX 72 rfl 1 xnd_SC_item_71 rfl rfl ?_
      refine xaX_iaload hX 73 rfl rfl (show vp_in _ (xw_n P) from hi) xnd_SC_item_72 ?_
      refine xf_iret hX hE xnd_SC_item_73 ?_
      refine ⟨?_, rfl⟩
      simp only [xs_item, h5, c11_0, c11_1, eq_true c11_2, if_true, if_false]
    by_cases c11_3 : k = 3
    · rw [c11_3]
      refine xf_tabIn hX 74 xnd_SC_item_11 (by decide) (by decide) rfl (by decide) ?_
      refine xf_aload_n hX 75 rfl 0 xnd_SC_item_74 rfl rfl ?_
      refine xg_SC_store hX 78 rfl xk_SC_25 xnd_SC_item_75 ?_
      refine xg_ST_expiries hX 81 rfl xk_SC_106 xnd_SC_item_78 ?_
      refine xf_iload_n hX 82 rfl 1 xnd_SC_item_81 rfl rfl ?_
      refine xaX_iaload hX 83 rfl rfl (show vp_in _ (xw_n P) from hi) xnd_SC_item_82 ?_
      refine xf_iret hX hE xnd_SC_item_83 ?_
      refine ⟨?_, rfl⟩
      simp only [xs_item, h5, c11_0, c11_1, c11_2, eq_true c11_3, if_true, if_false]
    by_cases c11_4 : k = 4
    · rw [c11_4]
      refine xf_tabIn hX 84 xnd_SC_item_11 (by decide) (by decide) rfl (by decide) ?_
      refine xf_aload_n hX 85 rfl 0 xnd_SC_item_84 rfl rfl ?_
      refine xg_SC_store hX 88 rfl xk_SC_25 xnd_SC_item_85 ?_
      refine xg_ST_bits hX 91 rfl xk_SC_109 xnd_SC_item_88 ?_
      refine xf_iload_n hX 92 rfl 1 xnd_SC_item_91 rfl rfl ?_
      refine xaX_baload hX 93 rfl rfl (show vp_in _ (xw_n P) from hi) xnd_SC_item_92 ?_
      refine xf_if_eq hX 96 rfl 100 xnd_SC_item_93 (by decide) (fun h93 => ?_) (fun h93 => ?_)
      · refine xf_iconst hX 101 rfl (0) xnd_SC_item_100 (by decide) ?_
        refine xf_iret hX hE xnd_SC_item_101 ?_
        refine ⟨?_, rfl⟩
        simp only [xs_item, h5, c11_0, c11_1, c11_2, c11_3, eq_true c11_4, eq_true h93, if_true, if_false]
      · refine xf_iconst hX 97 rfl (1) xnd_SC_item_96 (by decide) ?_
        refine xf_goto hX 101 xnd_SC_item_97 (by decide) ?_
        refine xf_iret hX hE xnd_SC_item_101 ?_
        refine ⟨?_, rfl⟩
        simp only [xs_item, h5, c11_0, c11_1, c11_2, c11_3, eq_true c11_4, h93, if_true, if_false]
    have n0 := lv_neT c11_0 (by decide : ((0 : Int32)).toInt = 0)
    have n1 := lv_neT c11_1 (by decide : ((1 : Int32)).toInt = 1)
    have n2 := lv_neT c11_2 (by decide : ((2 : Int32)).toInt = 2)
    have n3 := lv_neT c11_3 (by decide : ((3 : Int32)).toInt = 3)
    have n4 := lv_neT c11_4 (by decide : ((4 : Int32)).toInt = 4)
    refine xf_tabOut hX 102 xnd_SC_item_11 (by omega) (by decide) ?_
    refine xf_iconst hX 103 rfl (0) xnd_SC_item_102 (by decide) ?_
    refine xf_iret hX hE xnd_SC_item_103 ?_
    refine ⟨?_, rfl⟩
    simp only [xs_item, h5, c11_0, c11_1, c11_2, c11_3, c11_4, if_true, if_false]
  · refine xf_iconst hX 9 rfl (0) xnd_SC_item_8 (by decide) ?_
    refine xf_iret hX hE xnd_SC_item_9 ?_
    refine ⟨?_, rfl⟩
    simp only [xs_item, eq_true h5, if_true, if_false]

set_option maxRecDepth 100000 in
set_option maxHeartbeats 4000000 in
theorem xc_version (P : xw_T) (σ τ : xf_T) (k : Int32) : xf_F (xw_l P) xny_SC_version xnc_SC_version 2 (some .int) 1 22 (xw_W P) (xw_D P) (xw_ty P) [.ref (xw_a P 0), .int k] (σ, τ) (some (.int (xs_version σ k))) (σ, τ) := by
  refine xf_start (own := xnR_SC) [some (.ref (xw_a P 0)), some (.int k)] rfl (by decide) (Nat.le_of_ble_eq_true rfl) rfl (xf_cat rfl) ?_
  intro X hX hE
  refine xf_iload_n hX 1 rfl 1 xnd_SC_version_0 rfl rfl ?_
  refine xf_iconst hX 2 rfl (0) xnd_SC_version_1 (by decide) ?_
  refine xf_iconst hX 3 rfl (3) xnd_SC_version_2 (by decide) ?_
  refine xf_S3i hX 6 rfl (xc_isW P _ _ _ _ _) xq_SC_isWithin xk_SC_18 rfl rfl xnd_SC_version_3 ?_
  refine xf_if_eq hX 9 rfl 21 xnd_SC_version_6 (by decide) (fun h6 => ?_) (fun h6 => ?_)
  · refine xf_iconst hX 22 rfl (-1) xnd_SC_version_21 (by decide) ?_
    refine xf_iret hX hE xnd_SC_version_22 ?_
    refine ⟨?_, rfl⟩
    simp only [xs_version, eq_true h6, if_true, if_false]
  · refine xf_aload_n hX 10 rfl 0 xnd_SC_version_9 rfl rfl ?_
    refine xg_SC_store hX 13 rfl xk_SC_25 xnd_SC_version_10 ?_
    refine xg_ST_versions hX 16 rfl xk_SC_113 xnd_SC_version_13 ?_
    refine xf_iload_n hX 17 rfl 1 xnd_SC_version_16 rfl rfl ?_
    refine xaX_iaload hX 18 rfl rfl (show vp_in _ 4 from xs_isW_in (N := 4) (by omega) (by omega) h6) xnd_SC_version_17 ?_
    refine xf_goto hX 22 xnd_SC_version_18 (by decide) ?_
    refine xf_iret hX hE xnd_SC_version_22 ?_
    refine ⟨?_, rfl⟩
    simp only [xs_version, h6, if_true, if_false]

set_option maxRecDepth 100000 in
set_option maxHeartbeats 4000000 in
theorem xc_count (P : xw_T) (σ τ : xf_T) (k : Int32) : xf_F (xw_l P) xny_SC_count xnc_SC_count 2 (some .int) 0 0 (xw_W P) (xw_D P) (xw_ty P) [.ref (xw_a P 0), .int k] (σ, τ) (some (.int (xs_count σ k))) (σ, τ) := by
  refine xf_start (own := xnR_SC) [some (.ref (xw_a P 0)), some (.int k)] rfl (by decide) (Nat.le_of_ble_eq_true rfl) rfl (xf_cat rfl) ?_
  intro X hX hE
  refine xf_iload_n hX 1 rfl 1 xnd_SC_count_0 rfl rfl ?_
  by_cases c1_0 : k = 0
  · rw [c1_0]
    refine xf_tabIn hX 56 xnd_SC_count_1 (by decide) (by decide) rfl (by decide) ?_
    refine xf_aload_n hX 57 rfl 0 xnd_SC_count_56 rfl rfl ?_
    refine xg_SC_store hX 60 rfl xk_SC_25 xnd_SC_count_57 ?_
    refine xg_ST_usedCount hX 63 rfl xk_SC_128 xnd_SC_count_60 ?_
    refine xf_iret hX hE xnd_SC_count_63 ?_
    refine ⟨?_, rfl⟩
    simp only [xs_count, eq_true c1_0, if_true, if_false]
  by_cases c1_1 : k = 1
  · rw [c1_1]
    refine xf_tabIn hX 64 xnd_SC_count_1 (by decide) (by decide) rfl (by decide) ?_
    refine xf_aload_n hX 65 rfl 0 xnd_SC_count_64 rfl rfl ?_
    refine xg_SC_tally hX 68 rfl xk_SC_10 xnd_SC_count_65 ?_
    refine xg_TA_evictions hX 71 rfl xk_SC_131 xnd_SC_count_68 ?_
    refine xf_iret hX hE xnd_SC_count_71 ?_
    refine ⟨?_, rfl⟩
    simp only [xs_count, c1_0, eq_true c1_1, if_true, if_false]
  by_cases c1_2 : k = 2
  · rw [c1_2]
    refine xf_tabIn hX 72 xnd_SC_count_1 (by decide) (by decide) rfl (by decide) ?_
    refine xf_aload_n hX 73 rfl 0 xnd_SC_count_72 rfl rfl ?_
    refine xg_SC_tally hX 76 rfl xk_SC_10 xnd_SC_count_73 ?_
    refine xg_TA_moves hX 79 rfl xk_SC_134 xnd_SC_count_76 ?_
    refine xf_iret hX hE xnd_SC_count_79 ?_
    refine ⟨?_, rfl⟩
    simp only [xs_count, c1_0, c1_1, eq_true c1_2, if_true, if_false]
  by_cases c1_3 : k = 3
  · rw [c1_3]
    refine xf_tabIn hX 80 xnd_SC_count_1 (by decide) (by decide) rfl (by decide) ?_
    refine xf_aload_n hX 81 rfl 0 xnd_SC_count_80 rfl rfl ?_
    refine xg_SC_tally hX 84 rfl xk_SC_10 xnd_SC_count_81 ?_
    refine xg_TA_retries hX 87 rfl xk_SC_137 xnd_SC_count_84 ?_
    refine xf_iret hX hE xnd_SC_count_87 ?_
    refine ⟨?_, rfl⟩
    simp only [xs_count, c1_0, c1_1, c1_2, eq_true c1_3, if_true, if_false]
  by_cases c1_4 : k = 4
  · rw [c1_4]
    refine xf_tabIn hX 88 xnd_SC_count_1 (by decide) (by decide) rfl (by decide) ?_
    refine xf_aload_n hX 89 rfl 0 xnd_SC_count_88 rfl rfl ?_
    refine xg_SC_tally hX 92 rfl xk_SC_10 xnd_SC_count_89 ?_
    refine xg_TA_waits hX 95 rfl xk_SC_140 xnd_SC_count_92 ?_
    refine xf_iret hX hE xnd_SC_count_95 ?_
    refine ⟨?_, rfl⟩
    simp only [xs_count, c1_0, c1_1, c1_2, c1_3, eq_true c1_4, if_true, if_false]
  by_cases c1_5 : k = 5
  · rw [c1_5]
    refine xf_tabIn hX 96 xnd_SC_count_1 (by decide) (by decide) rfl (by decide) ?_
    refine xf_aload_n hX 97 rfl 0 xnd_SC_count_96 rfl rfl ?_
    refine xg_SC_tally hX 100 rfl xk_SC_10 xnd_SC_count_97 ?_
    refine xg_TA_nearMisses hX 103 rfl xk_SC_143 xnd_SC_count_100 ?_
    refine xf_iret hX hE xnd_SC_count_103 ?_
    refine ⟨?_, rfl⟩
    simp only [xs_count, c1_0, c1_1, c1_2, c1_3, c1_4, eq_true c1_5, if_true, if_false]
  by_cases c1_6 : k = 6
  · rw [c1_6]
    refine xf_tabIn hX 104 xnd_SC_count_1 (by decide) (by decide) rfl (by decide) ?_
    refine xf_aload_n hX 105 rfl 0 xnd_SC_count_104 rfl rfl ?_
    refine xg_SC_tally hX 108 rfl xk_SC_10 xnd_SC_count_105 ?_
    refine xg_TA_expiredRemoved hX 111 rfl xk_SC_146 xnd_SC_count_108 ?_
    refine xf_iret hX hE xnd_SC_count_111 ?_
    refine ⟨?_, rfl⟩
    simp only [xs_count, c1_0, c1_1, c1_2, c1_3, c1_4, c1_5, eq_true c1_6, if_true, if_false]
  by_cases c1_7 : k = 7
  · rw [c1_7]
    refine xf_tabIn hX 112 xnd_SC_count_1 (by decide) (by decide) rfl (by decide) ?_
    refine xf_aload_n hX 113 rfl 0 xnd_SC_count_112 rfl rfl ?_
    refine xg_SC_store hX 116 rfl xk_SC_25 xnd_SC_count_113 ?_
    refine xg_ST_time hX 119 rfl xk_SC_83 xnd_SC_count_116 ?_
    refine xf_iret hX hE xnd_SC_count_119 ?_
    refine ⟨?_, rfl⟩
    simp only [xs_count, c1_0, c1_1, c1_2, c1_3, c1_4, c1_5, c1_6, eq_true c1_7, if_true, if_false]
  by_cases c1_8 : k = 8
  · rw [c1_8]
    refine xf_tabIn hX 120 xnd_SC_count_1 (by decide) (by decide) rfl (by decide) ?_
    refine xf_aload_n hX 121 rfl 0 xnd_SC_count_120 rfl rfl ?_
    refine xg_SC_writer hX 124 rfl xk_SC_34 xnd_SC_count_121 ?_
    refine xg_WR_hand hX 127 rfl xk_SC_149 xnd_SC_count_124 ?_
    refine xf_iret hX hE xnd_SC_count_127 ?_
    refine ⟨?_, rfl⟩
    simp only [xs_count, c1_0, c1_1, c1_2, c1_3, c1_4, c1_5, c1_6, c1_7, eq_true c1_8, if_true, if_false]
  by_cases c1_9 : k = 9
  · rw [c1_9]
    refine xf_tabIn hX 128 xnd_SC_count_1 (by decide) (by decide) rfl (by decide) ?_
    refine xf_aload_n hX 129 rfl 0 xnd_SC_count_128 rfl rfl ?_
    refine xg_SC_store hX 132 rfl xk_SC_25 xnd_SC_count_129 ?_
    refine xg_ST_latestToken hX 135 rfl xk_SC_152 xnd_SC_count_132 ?_
    refine xf_iret hX hE xnd_SC_count_135 ?_
    refine ⟨?_, rfl⟩
    simp only [xs_count, c1_0, c1_1, c1_2, c1_3, c1_4, c1_5, c1_6, c1_7, c1_8, eq_true c1_9, if_true, if_false]
  have n0 := lv_neT c1_0 (by decide : ((0 : Int32)).toInt = 0)
  have n1 := lv_neT c1_1 (by decide : ((1 : Int32)).toInt = 1)
  have n2 := lv_neT c1_2 (by decide : ((2 : Int32)).toInt = 2)
  have n3 := lv_neT c1_3 (by decide : ((3 : Int32)).toInt = 3)
  have n4 := lv_neT c1_4 (by decide : ((4 : Int32)).toInt = 4)
  have n5 := lv_neT c1_5 (by decide : ((5 : Int32)).toInt = 5)
  have n6 := lv_neT c1_6 (by decide : ((6 : Int32)).toInt = 6)
  have n7 := lv_neT c1_7 (by decide : ((7 : Int32)).toInt = 7)
  have n8 := lv_neT c1_8 (by decide : ((8 : Int32)).toInt = 8)
  have n9 := lv_neT c1_9 (by decide : ((9 : Int32)).toInt = 9)
  refine xf_tabOut hX 136 xnd_SC_count_1 (by omega) (by decide) ?_
  refine xf_iconst hX 137 rfl (-1) xnd_SC_count_136 (by decide) ?_
  refine xf_iret hX hE xnd_SC_count_137 ?_
  refine ⟨?_, rfl⟩
  simp only [xs_count, c1_0, c1_1, c1_2, c1_3, c1_4, c1_5, c1_6, c1_7, c1_8, c1_9, if_true, if_false]

set_option maxRecDepth 100000 in
set_option maxHeartbeats 4000000 in
theorem xc_work (P : xw_T) (σ τ : xf_T) (kk : Int32) (I : xf_T → Prop) (h0 : I σ) (hs : ∀ s, I s → s.1 9 = 0 → xs_okW (xw_n P) (xw_w P) s ∧ I (xs_goOn (xw_n P) (xw_w P) s)) : xf_F (xw_l P) xny_SC_work xnc_SC_work 3 (some .int) 7 147 (xw_W P) (xw_D P) (xw_ty P) [.ref (xw_a P 0), .int kk] (σ, τ) (some (.int ((xs_wk (xw_n P) (xw_w P) σ kk).2))) ((xs_wk (xw_n P) (xw_w P) σ kk).1, τ) := by
  refine xf_start (own := xnR_SC) [some (.ref (xw_a P 0)), some (.int kk), none] rfl (by decide) (Nat.le_of_ble_eq_true rfl) rfl (xf_cat rfl) ?_
  intro X hX hE
  have loop : ∀ {k RES}, k < 2 ^ 31 → xf_end X (some .int) (fun v u => v = some (.int RES.2) ∧ u = (RES.1, τ)) → ∀ r d s, r + d = k → I s → xs_work (xw_n P) (xw_w P) r s (nI d) = RES → xf_V X 12 [some (.ref (xw_a P 0)), some (.int (nI k)), some (.int (nI d))] [] (s, τ) := by
    intro k RES hk hE r
    induction r with
    | zero =>
      intro d s hd hIs hR
      refine xf_iload_n hX 13 rfl 2 xnd_SC_work_12 rfl rfl ?_
      refine xf_iload_n hX 14 rfl 1 xnd_SC_work_13 rfl rfl ?_
      refine xf_icmp_ge hX 17 rfl 40 xnd_SC_work_14 (by decide) (fun _ => ?_) (fun h14 => absurd (nI_le (by omega) (by omega)) h14)
      refine xf_iload_n hX 41 rfl 2 xnd_SC_work_40 rfl rfl ?_
      refine xf_iret hX hE xnd_SC_work_41 ?_
      rw [← hR]
      exact ⟨rfl, rfl⟩
    | succ r ih =>
      intro d s hd hIs hR
      by_cases hu : s.1 9 = 0
      · have hu1 : xs_uw s = 1 := by unfold xs_uw; rw [if_pos hu]
        refine xf_iload_n hX 13 rfl 2 xnd_SC_work_12 rfl rfl ?_
        refine xf_iload_n hX 14 rfl 1 xnd_SC_work_13 rfl rfl ?_
        refine xf_icmp_ge hX 17 rfl 40 xnd_SC_work_14 (by decide) (fun h14 => absurd h14 (nI_ge (by omega) (by omega))) (fun _ => ?_)
        refine xf_aload_n hX 18 rfl 0 xnd_SC_work_17 rfl rfl ?_
        refine xg_SC_writer hX 21 rfl xk_SC_34 xnd_SC_work_18 ?_
        refine xf_V0i hX 24 rfl (xc_uw P _ _) xq_WR_isUnderWay xk_SC_47 xrX_WR rfl rfl xnd_SC_work_21 ?_
        rw [hu1]
        refine xf_if_eq hX 27 rfl 40 xnd_SC_work_24 (by decide) (fun h24 => absurd h24 (by decide)) (fun _ => ?_)
        refine xf_aload_n hX 28 rfl 0 xnd_SC_work_27 rfl rfl ?_
        refine xg_SC_writer hX 31 rfl xk_SC_34 xnd_SC_work_28 ?_
        refine xf_V0v hX 34 rfl (xc_goOn P _ _ (hs s hIs hu).1) xq_WR_goOn xk_SC_55 xrX_WR rfl rfl xnd_SC_work_31 ?_
        refine xf_iinc hX 37 rfl (nI (d + 1)) xnd_SC_work_34 rfl (by rw [nI_succ]; rfl) (by decide) ?_
        dsimp only [List.set]
        refine xf_goto hX 12 xnd_SC_work_37 (by decide) ?_
        rw [xs_work, if_pos hu, nI_1] at hR
        exact ih (d + 1) _ (by omega) (hs s hIs hu).2 hR
      · have hu0 : xs_uw s = 0 := by unfold xs_uw; rw [if_neg hu]
        refine xf_iload_n hX 13 rfl 2 xnd_SC_work_12 rfl rfl ?_
        refine xf_iload_n hX 14 rfl 1 xnd_SC_work_13 rfl rfl ?_
        refine xf_icmp_ge hX 17 rfl 40 xnd_SC_work_14 (by decide) (fun h14 => absurd h14 (nI_ge (by omega) (by omega))) (fun _ => ?_)
        refine xf_aload_n hX 18 rfl 0 xnd_SC_work_17 rfl rfl ?_
        refine xg_SC_writer hX 21 rfl xk_SC_34 xnd_SC_work_18 ?_
        refine xf_V0i hX 24 rfl (xc_uw P _ _) xq_WR_isUnderWay xk_SC_47 xrX_WR rfl rfl xnd_SC_work_21 ?_
        rw [hu0]
        refine xf_if_eq hX 27 rfl 40 xnd_SC_work_24 (by decide) (fun _ => ?_) (fun h24 => absurd rfl h24)
        refine xf_iload_n hX 41 rfl 2 xnd_SC_work_40 rfl rfl ?_
        refine xf_iret hX hE xnd_SC_work_41 ?_
        rw [xs_work, if_neg hu] at hR
        rw [← hR]
        exact ⟨rfl, rfl⟩
  refine xf_iconst hX 1 rfl (0) xnd_SC_work_0 (by decide) ?_
  refine xf_istore_n hX 2 rfl 2 xnd_SC_work_1 rfl (by decide) ?_
  dsimp only [List.set]
  refine xf_iload_n hX 3 rfl 1 xnd_SC_work_2 rfl rfl ?_
  refine xf_iconst hX 4 rfl (1) xnd_SC_work_3 (by decide) ?_
  refine xf_bipush hX 6 rfl (50) xnd_SC_work_4 (by decide) ?_
  refine xf_S3i hX 9 rfl (xc_isW P _ _ _ _ _) xq_SC_isWithin xk_SC_18 rfl rfl xnd_SC_work_6 ?_
  refine xf_if_eq hX 12 rfl 40 xnd_SC_work_9 (by decide) (fun h9 => ?_) (fun h9 => ?_)
  · have e9 : xs_wk (xw_n P) (xw_w P) σ kk = (σ, 0) := by unfold xs_wk; rw [if_pos h9]
    rw [e9] at hE
    refine xf_iload_n hX 41 rfl 2 xnd_SC_work_40 rfl rfl ?_
    refine xf_iret hX hE xnd_SC_work_41 ?_
    exact ⟨rfl, rfl⟩
  · have e9 : xs_wk (xw_n P) (xw_w P) σ kk = xs_work (xw_n P) (xw_w P) kk.toNatClampNeg σ 0 := by unfold xs_wk; rw [if_neg h9]
    rw [e9] at hE
    obtain ⟨k, hk, rfl⟩ : ∃ k : Nat, k < 2 ^ 31 ∧ kk = nI k := by
      unfold xs_isW at h9
      by_cases h1 : kk < 1
      · rw [if_pos h1] at h9; exact absurd rfl h9
      · refine nI_of (fun h0 => h1 ?_)
        rw [Int32.lt_iff_toInt_lt] at h0 ⊢
        have : ((0 : Int32)).toInt = 0 := by decide
        have : ((1 : Int32)).toInt = 1 := by decide
        omega
    rw [nI_clamp hk] at hE
    exact loop hk hE k 0 σ (by omega) h0 rfl

