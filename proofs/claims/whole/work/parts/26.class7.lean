/-! Contracts of the class: the search itself, and a step of the writer. Laid by wip/gen/class7.py. -/
theorem xb_chain {w : Nat} {sb nb : Nat → Nat} {oc : Nat → Prop} (hw : 8 * w < 2 ^ 31) {hp he m : Nat} {Q Bf Dp : Nat → Int32} {q dep cd : Nat → Nat} (I : xb_inv w sb nb oc hp he m Q Bf Dp q dep cd) : ∀ (k i : Nat), i < m → dep (q i) = k → xs_chain (8 * w) Bf k (nI (q i))
  | 0, i, _, _ => trivial
  | k + 1, i, hi, hd => by
    obtain ⟨e1, e2, e3, e4, e5, e6, e7⟩ := (I.1 i hi).2
    obtain ⟨i', a1, a2, a3, a4, a5⟩ := e7 k hd
    refine ⟨vp_in_nI e1 hw, ?_⟩
    rw [nI_clamp (by omega), a5]
    exact xb_chain hw I k i' (Nat.lt_of_lt_of_le a1 I.2.2.2.2.1) a3
theorem xs_nb_lt {w : Nat} (hw : 0 < w) (σ : xf_T) {p : Nat} (hp : p < 8 * w) : xs_nb w σ p < 8 ∧ ∃ j, j < 8 ∧ xs_ob (nI (p / w)) (σ.2 6 (σ.2 5 p).toNatClampNeg) = nI j := by
  have h8 : p / w < 8 := (Nat.div_lt_iff_lt_mul hw).mpr hp
  obtain ⟨j, hj, e⟩ := xs_ob_is h8 (σ.2 6 (σ.2 5 p).toNatClampNeg)
  refine ⟨?_, j, hj, e⟩
  unfold xs_nb
  rw [e, nI_clamp (by omega)]
  exact hj
theorem xm_sb_lt (key : Int32) : xm_sb key 0 < 8 ∧ xm_sb key 1 < 8 := by
  obtain ⟨j, hj, e⟩ := xs_b1_is key
  obtain ⟨i, hi, e'⟩ := xs_b2_is key
  unfold xm_sb
  rw [if_pos rfl, if_neg (by decide), e, e', nI_clamp (by omega), nI_clamp (by omega)]
  exact ⟨hj, hi⟩
theorem xc_enterP (P : xw_T) (σ τ : xf_T) (a : (Nat → Int32) × (Nat → Int32) × (Nat → Int32) × Nat) (b fr dp : Int32) (hw : 1 ≤ xw_w P ∧ xw_w P ≤ 4) (hb : ∃ j, j < 8 ∧ b = nI j) (hd : dp ≠ -1) (hm0 : xb_cnt a.2.2.1 (8 * xw_w P) = a.2.2.2) : xf_F (xw_l P) xny_PA_enter xnc_PA_enter 6 none 0 0 (xw_W P) (xw_D P) (xw_ty P) [.ref (xw_a P 13), .int b, .int fr, .int dp] (xs_pack σ a, τ) none (xs_pack σ (xb_enter fr dp (xw_w P) (xw_w P * b.toNatClampNeg) a), τ) := by
  obtain ⟨Q, Bf, Dp, m⟩ := a
  have h := xc_enter P (xs_pack σ (Q, Bf, Dp, m)) τ b fr dp m hw hb hd hm0 rfl
  rw [xs_pack_pack] at h
  exact h
theorem xc_fillP (P : xw_T) (σ τ : xf_T) (hw : 1 ≤ xw_w P ∧ xw_w P ≤ 4) : xf_F (xw_l P) xny_AR_fill xnc_AR_fill 4 none 0 0 (xw_W P) (xw_D P) (xw_ty P) [.ref (xw_a P 17), .int (-1)] (xf_I σ 20 0, τ) none (xs_pack σ (σ.2 15, σ.2 16, xs_fill (8 * xw_w P) (σ.2 17) (-1) (8 * xw_w P), 0), τ) := by
  have h := xc_fill P (xf_I σ 20 0) τ (-1) hw
  rw [xs_pack_0] at h
  exact h
theorem xs_pk15 {σ : xf_T} {a : (Nat → Int32) × (Nat → Int32) × (Nat → Int32) × Nat} : (xs_pack σ a).2 15 = a.1 := rfl
theorem xs_pk17 {σ : xf_T} {a : (Nat → Int32) × (Nat → Int32) × (Nat → Int32) × Nat} : (xs_pack σ a).2 17 = a.2.2.1 := rfl
theorem xs_pk16 {σ : xf_T} {a : (Nat → Int32) × (Nat → Int32) × (Nat → Int32) × Nat} : (xs_pack σ a).2 16 = a.2.1 := rfl
theorem xs_pk5 {σ : xf_T} {a : (Nat → Int32) × (Nat → Int32) × (Nat → Int32) × Nat} : (xs_pack σ a).2 5 = σ.2 5 := rfl
theorem xs_pk6 {σ : xf_T} {a : (Nat → Int32) × (Nat → Int32) × (Nat → Int32) × Nat} : (xs_pack σ a).2 6 = σ.2 6 := rfl
theorem xs_pk20 {σ : xf_T} {a : (Nat → Int32) × (Nat → Int32) × (Nat → Int32) × Nat} : (xs_pack σ a).1 20 = nI a.2.2.2 := rfl
set_option maxRecDepth 100000 in
set_option maxHeartbeats 4000000 in
theorem xc_seek_loop (P : xw_T) (σ τ : xf_T) (key : Int32) (ho : xs_okP (xw_n P) (xw_w P) σ) {X : xf_C} (hX : xf_ok X (xw_l P) xnR_PA xnc_PA_seek 4 4 81 (xw_W P) (xw_D P) (xw_ty P)) {RES : Option Nat × (Nat → Int32) × (Nat → Int32) × (Nat → Int32) × Nat} (hE : xf_end X (some .boolean) (fun v u => v = some (.int (if RES.1 = none then 0 else 1)) ∧ u = (xs_res σ RES, τ))) : ∀ r h a x3, r + h = 8 * (xw_w P) → (∃ q dep cd, xb_inv (xw_w P) (xm_sb key) (xs_nb (xw_w P) σ) (fun p => ¬ σ.2 5 p = -1) h h a.2.2.2 a.1 a.2.1 a.2.2.1 q dep cd) → xs_bfs (xw_w P) σ r h a = RES → xf_V X 35 [some (.ref (xw_a P 13)), some (.int key), some (.int (nI h)), x3] [] (xs_pack σ a, τ) := by
  have hw := ho.2
  intro r
  induction r with
  | zero =>
    intro h a x3 hh hI hR
    refine xf_iload_n hX 36 rfl 2 xnd_PA_seek_35 rfl rfl ?_
    refine xf_aload_n hX 37 rfl 0 xnd_PA_seek_36 rfl rfl ?_
    refine xg_PA_queue hX 40 rfl xk_PA_24 xnd_PA_seek_37 ?_
    refine xaX_alen hX 41 rfl rfl xnd_PA_seek_40 ?_
    change xf_V X 41 _ [.int (nI (8 * xw_w P)), _] _
    refine xf_icmp_ge hX 44 rfl 137 xnd_PA_seek_41 (by decide) (fun _ => ?_) (fun h41 => absurd (nI_le (by omega) (by omega)) h41)
    refine xf_iconst hX 138 rfl (0) xnd_PA_seek_137 (by decide) ?_
    refine xf_zret hX hE xnd_PA_seek_138 rfl ?_
    rw [← hR]
    exact ⟨rfl, rfl⟩
  | succ r ih =>
    intro h a x3 hh hI hR
    obtain ⟨q, dep, cd, I⟩ := hI
    have hmle := I.le
    refine xf_iload_n hX 36 rfl 2 xnd_PA_seek_35 rfl rfl ?_
    refine xf_aload_n hX 37 rfl 0 xnd_PA_seek_36 rfl rfl ?_
    refine xg_PA_queue hX 40 rfl xk_PA_24 xnd_PA_seek_37 ?_
    refine xaX_alen hX 41 rfl rfl xnd_PA_seek_40 ?_
    change xf_V X 41 _ [.int (nI (8 * xw_w P)), _] _
    refine xf_icmp_ge hX 44 rfl 137 xnd_PA_seek_41 (by decide) (fun h41 => absurd h41 (nI_ge (by omega) (by omega))) (fun _ => ?_)
    refine xf_iload_n hX 45 rfl 2 xnd_PA_seek_44 rfl rfl ?_
    refine xf_aload_n hX 46 rfl 0 xnd_PA_seek_45 rfl rfl ?_
    refine xg_PA_queued hX 49 rfl xk_PA_33 xnd_PA_seek_46 ?_
    rw [xs_pk20]
    refine xf_icmp_ge hX 52 rfl 137 xnd_PA_seek_49 (by decide) (fun h49 => ?_) (fun h49 => ?_)
    · have hm : ¬ h < a.2.2.2 := by rw [nI_leI (by omega) (by omega)] at h49; omega
      rw [xs_bfs, if_neg hm] at hR
      refine xf_iconst hX 138 rfl (0) xnd_PA_seek_137 (by decide) ?_
      refine xf_zret hX hE xnd_PA_seek_138 rfl ?_
      rw [← hR]
      exact ⟨rfl, rfl⟩
    · have hm : h < a.2.2.2 := by rw [nI_leI (by omega) (by omega)] at h49; omega
      obtain ⟨eQ, e1, e2, e3, e4, e5, e6, e7⟩ := I.1 h hm
      have hcl : (nI (q h)).toNatClampNeg = q h := nI_clamp (by omega)
      rw [xs_bfs, if_pos hm, eQ, hcl] at hR
      refine xf_aload_n hX 53 rfl 0 xnd_PA_seek_52 rfl rfl ?_
      refine xg_PA_queue hX 56 rfl xk_PA_24 xnd_PA_seek_53 ?_
      refine xf_iload_n hX 57 rfl 2 xnd_PA_seek_56 rfl rfl ?_
      refine xaX_iaload hX 58 rfl rfl (show vp_in _ (8 * xw_w P) from vp_in_nI (by omega) (by omega)) xnd_PA_seek_57 ?_
      rw [nI_clamp (by omega)]
      rw [xs_pk15, eQ]
      refine xf_istore_n hX 59 rfl 3 xnd_PA_seek_58 rfl (by decide) ?_
      dsimp only [List.set]
      refine xf_aload_n hX 60 rfl 0 xnd_PA_seek_59 rfl rfl ?_
      refine xg_PA_store hX 63 rfl xk_PA_9 xnd_PA_seek_60 ?_
      refine xg_ST_places hX 66 rfl xk_PA_19 xnd_PA_seek_63 ?_
      refine xf_iload_n hX 67 rfl 3 xnd_PA_seek_66 rfl rfl ?_
      refine xaX_iaload hX 68 rfl rfl (show vp_in _ (8 * xw_w P) from vp_in_nI e1 (by omega)) xnd_PA_seek_67 ?_
      rw [hcl, xs_pk5]
      refine xf_iconst hX 69 rfl (-1) xnd_PA_seek_68 (by decide) ?_
      refine xf_icmp_ne hX 72 rfl 79 xnd_PA_seek_69 (by decide) (fun h69 => ?_) (fun h69 => ?_)
      · refine xf_aload_n hX 80 rfl 0 xnd_PA_seek_79 rfl rfl ?_
        refine xg_PA_depths hX 83 rfl xk_PA_30 xnd_PA_seek_80 ?_
        refine xf_iload_n hX 84 rfl 3 xnd_PA_seek_83 rfl rfl ?_
        refine xaX_iaload hX 85 rfl rfl (show vp_in _ (8 * xw_w P) from vp_in_nI e1 (by omega)) xnd_PA_seek_84 ?_
        rw [hcl, xs_pk17, e2]
        refine xf_iconst hX 86 rfl (4) xnd_PA_seek_85 (by decide) ?_
        refine xf_icmp_ge hX 89 rfl 131 xnd_PA_seek_86 (by decide) (fun h86 => ?_) (fun h86 => ?_)
        · refine xf_iinc hX 134 rfl (nI (h + 1)) xnd_PA_seek_131 rfl (by rw [nI_succ]; rfl) (by decide) ?_
          dsimp only [List.set]
          refine xf_goto hX 35 xnd_PA_seek_134 (by decide) ?_
          have hd4 : ¬ dep (q h) < 4 := by rw [show (4 : Int32) = nI 4 from rfl, nI_leI (by omega) (by omega)] at h86; omega
          refine ih (h + 1) a _ (by omega) ⟨q, dep, cd, xb_skip I hm h69 hd4⟩ ?_
          rw [if_neg h69, e2, if_pos h86] at hR
          exact hR
        · refine xf_aload_n hX 90 rfl 0 xnd_PA_seek_89 rfl rfl ?_
          refine xf_iload_n hX 91 rfl 3 xnd_PA_seek_90 rfl rfl ?_
          refine xf_aload_n hX 92 rfl 0 xnd_PA_seek_91 rfl rfl ?_
          refine xg_PA_store hX 95 rfl xk_PA_9 xnd_PA_seek_92 ?_
          refine xg_ST_ways hX 98 rfl xk_PA_58 xnd_PA_seek_95 ?_
          refine xf_idiv hX 99 rfl xnd_PA_seek_98 (nI_ne0 (by omega) (by omega)) ?_
          rw [pk_div (by omega) (by omega) (by omega)]
          refine xf_aload_n hX 100 rfl 0 xnd_PA_seek_99 rfl rfl ?_
          refine xg_PA_store hX 103 rfl xk_PA_9 xnd_PA_seek_100 ?_
          refine xg_ST_keys hX 106 rfl xk_PA_61 xnd_PA_seek_103 ?_
          refine xf_aload_n hX 107 rfl 0 xnd_PA_seek_106 rfl rfl ?_
          refine xg_PA_store hX 110 rfl xk_PA_9 xnd_PA_seek_107 ?_
          refine xg_ST_places hX 113 rfl xk_PA_19 xnd_PA_seek_110 ?_
          refine xf_iload_n hX 114 rfl 3 xnd_PA_seek_113 rfl rfl ?_
          refine xaX_iaload hX 115 rfl rfl (show vp_in _ (8 * xw_w P) from vp_in_nI e1 (by omega)) xnd_PA_seek_114 ?_
          rw [hcl, xs_pk5]
          refine xaX_iaload hX 116 rfl rfl (ho.in e1 h69) xnd_PA_seek_115 ?_
          rw [xs_pk6]
          refine xf_T2i hX 119 rfl (xc_ob P _ _ _ _) xq_SC_otherBucket xk_PA_64 rfl rfl xnd_PA_seek_116 ?_
          refine xf_iload_n hX 120 rfl 3 xnd_PA_seek_119 rfl rfl ?_
          refine xf_aload_n hX 121 rfl 0 xnd_PA_seek_120 rfl rfl ?_
          refine xg_PA_depths hX 124 rfl xk_PA_30 xnd_PA_seek_121 ?_
          refine xf_iload_n hX 125 rfl 3 xnd_PA_seek_124 rfl rfl ?_
          refine xaX_iaload hX 126 rfl rfl (show vp_in _ (8 * xw_w P) from vp_in_nI e1 (by omega)) xnd_PA_seek_125 ?_
          rw [hcl, xs_pk17, e2]
          refine xf_iconst hX 127 rfl (1) xnd_PA_seek_126 (by decide) ?_
          refine xf_iadd hX 128 rfl xnd_PA_seek_127 ?_
          rw [nI_1]
          refine xf_V3v hX 131 rfl (xc_enterP P _ _ _ _ _ _ (by omega) (xs_nb_lt (by omega) σ e1).2 (xb_nIm1 (by omega)) I.2.2.2.2.2.2) xq_PA_enter xk_PA_47 xrX_PA rfl rfl xnd_PA_seek_128 ?_
          change xf_V X 131 _ _ (xs_pack σ (xb_enter (nI (q h)) (nI (dep (q h) + 1)) (xw_w P) ((xw_w P) * xs_nb (xw_w P) σ (q h)) a), τ)
          refine xf_iinc hX 134 rfl (nI (h + 1)) xnd_PA_seek_131 rfl (by rw [nI_succ]; rfl) (by decide) ?_
          dsimp only [List.set]
          refine xf_goto hX 35 xnd_PA_seek_134 (by decide) ?_
          have hd4 : dep (q h) < 4 := by rw [show (4 : Int32) = nI 4 from rfl, nI_leI (by omega) (by omega)] at h86; omega
          obtain ⟨m', Q', Bf', Dp', q', dep', cd', g1, g2, g3⟩ := xb_expand (by omega) (by omega) I hm h69 hd4 (xs_nb_lt (by omega) σ e1).1
          rw [if_neg h69, e2, if_neg h86, nI_1] at hR
          have g1 : xb_enter (nI (q h)) (nI (dep (q h) + 1)) (xw_w P) ((xw_w P) * xs_nb (xw_w P) σ (q h)) a = (Q', Bf', Dp', m') := g1
          rw [g1] at hR ⊢
          exact ih (h + 1) (Q', Bf', Dp', m') _ (by omega) ⟨q', dep', cd', g2⟩ hR
      · refine xf_aload_n hX 73 rfl 0 xnd_PA_seek_72 rfl rfl ?_
        refine xf_iload_n hX 74 rfl 3 xnd_PA_seek_73 rfl rfl ?_
        refine xf_V1v hX 77 rfl (xc_keep P _ _ _ (dep (q h)) (show vp_in _ (8 * xw_w P) from vp_in_nI e1 (by omega)) (by rw [hcl, xs_pk17]; exact e2) e3 (by rw [xs_pk16]; exact xb_chain (by omega) I _ _ hm rfl)) xq_PA_keep xk_PA_54 xrX_PA rfl rfl xnd_PA_seek_74 ?_
        refine xf_iconst hX 78 rfl (1) xnd_PA_seek_77 (by decide) ?_
        refine xf_zret hX hE xnd_PA_seek_78 rfl ?_
        rw [if_pos h69] at hR
        rw [← hR]
        exact ⟨rfl, rfl⟩
set_option maxRecDepth 100000 in
set_option maxHeartbeats 4000000 in
theorem xc_seek (P : xw_T) (σ τ : xf_T) (key : Int32) (ho : xs_okP (xw_n P) (xw_w P) σ) : xf_F (xw_l P) xny_PA_seek xnc_PA_seek 4 (some .boolean) 4 81 (xw_W P) (xw_D P) (xw_ty P) [.ref (xw_a P 13), .int key] (σ, τ) (some (.int (xs_seekB (xw_w P) σ key))) (xs_seek (xw_w P) σ key, τ) := by
  refine xf_start (own := xnR_PA) [some (.ref (xw_a P 13)), some (.int key), none, none] rfl (by decide) (Nat.le_of_ble_eq_true rfl) rfl (xf_cat rfl) ?_
  intro X hX hE
  have hw := ho.2
  obtain ⟨hs0, hs1⟩ := xm_sb_lt key
  have hb0 : xs_bfs0 (xw_w P) σ key = xs_bfs (xw_w P) σ (8 * (xw_w P)) 0 (xb_enter (-1) 0 (xw_w P) ((xw_w P) * (xs_b2 key).toNatClampNeg) (xb_enter (-1) 0 (xw_w P) ((xw_w P) * (xs_b1 key).toNatClampNeg) (σ.2 15, σ.2 16, (xs_fill (8 * (xw_w P)) (σ.2 17) (-1) (8 * (xw_w P))), 0))) := by unfold xs_bfs0; rfl
  unfold xs_seekB xs_seek at hE
  generalize hRES : xs_bfs0 (xw_w P) σ key = RES at hE hb0
  have hD0 : ∀ p, p < 8 * (xw_w P) → (xs_fill (8 * (xw_w P)) (σ.2 17) (-1) (8 * (xw_w P))) p = -1 := fun p hp => if_pos hp
  have hc0 : xb_cnt (xs_fill (8 * (xw_w P)) (σ.2 17) (-1) (8 * (xw_w P))) (8 * (xw_w P)) = 0 := xb_cnt_0 hD0
  have hc1 : xb_cnt (xb_enter (-1) 0 (xw_w P) ((xw_w P) * (xs_b1 key).toNatClampNeg) (σ.2 15, σ.2 16, (xs_fill (8 * (xw_w P)) (σ.2 17) (-1) (8 * (xw_w P))), 0)).2.2.1 (8 * (xw_w P)) = (xb_enter (-1) 0 (xw_w P) ((xw_w P) * (xs_b1 key).toNatClampNeg) (σ.2 15, σ.2 16, (xs_fill (8 * (xw_w P)) (σ.2 17) (-1) (8 * (xw_w P))), 0)).2.2.2 := by
    refine xb_enter_cnt (by decide) _ _ _ ?_ hc0
    obtain ⟨j, hj, e⟩ := xs_b1_is key
    rw [e, nI_clamp (by omega)]
    exact xr_bkb hj
  obtain ⟨m2, Q2, B2, D2, q2, dp2, c2, b1, b2, b3⟩ := xb_begin (w := (xw_w P)) (sb := xm_sb key) (nb := xs_nb (xw_w P) σ) (oc := fun p => ¬ σ.2 5 p = -1) (f := -1) (Q := σ.2 15) (Bf := σ.2 16) (by omega) hs0 hs1 hD0
  have es0 : xm_sb key 0 = (xs_b1 key).toNatClampNeg := by unfold xm_sb; rw [if_pos rfl]
  have es1 : xm_sb key 1 = (xs_b2 key).toNatClampNeg := by unfold xm_sb; rw [if_neg (by decide)]
  rw [es0, es1, nI_0] at b1
  rw [b1] at hb0
  have loop := xc_seek_loop P σ τ key ho hX hE
  refine xf_aload_n hX 1 rfl 0 xnd_PA_seek_0 rfl rfl ?_
  refine xf_iconst hX 2 rfl (0) xnd_PA_seek_1 (by decide) ?_
  refine xp_PA_queued hX 5 rfl xk_PA_33 xnd_PA_seek_2 ?_
  refine xf_aload_n hX 6 rfl 0 xnd_PA_seek_5 rfl rfl ?_
  refine xg_PA_depths hX 9 rfl xk_PA_30 xnd_PA_seek_6 ?_
  refine xf_iconst hX 10 rfl (-1) xnd_PA_seek_9 (by decide) ?_
  refine xf_S2v hX 13 rfl (xc_fillP P _ _ (by omega)) xq_AR_fill xk_PA_37 rfl rfl xnd_PA_seek_10 ?_
  refine xf_aload_n hX 14 rfl 0 xnd_PA_seek_13 rfl rfl ?_
  refine xf_iload_n hX 15 rfl 1 xnd_PA_seek_14 rfl rfl ?_
  refine xf_T1i hX 18 rfl (xc_firstBucket P _ _ _) xq_SC_firstBucket xk_PA_43 rfl rfl xnd_PA_seek_15 ?_
  refine xf_iconst hX 19 rfl (-1) xnd_PA_seek_18 (by decide) ?_
  refine xf_iconst hX 20 rfl (0) xnd_PA_seek_19 (by decide) ?_
  refine xf_V3v hX 23 rfl (xc_enterP P _ _ _ _ _ _ (by omega) (xs_b1_is _) (by decide) hc0) xq_PA_enter xk_PA_47 xrX_PA rfl rfl xnd_PA_seek_20 ?_
  refine xf_aload_n hX 24 rfl 0 xnd_PA_seek_23 rfl rfl ?_
  refine xf_iload_n hX 25 rfl 1 xnd_PA_seek_24 rfl rfl ?_
  refine xf_T1i hX 28 rfl (xc_secondBucket P _ _ _) xq_SC_secondBucket xk_PA_51 rfl rfl xnd_PA_seek_25 ?_
  refine xf_iconst hX 29 rfl (-1) xnd_PA_seek_28 (by decide) ?_
  refine xf_iconst hX 30 rfl (0) xnd_PA_seek_29 (by decide) ?_
  refine xf_V3v hX 33 rfl (xc_enterP P _ _ _ _ _ _ (by omega) (xs_b2_is _) (by decide) hc1) xq_PA_enter xk_PA_47 xrX_PA rfl rfl xnd_PA_seek_30 ?_
  rw [b1]
  refine xf_iconst hX 34 rfl (0) xnd_PA_seek_33 (by decide) ?_
  refine xf_istore_n hX 35 rfl 2 xnd_PA_seek_34 rfl (by decide) ?_
  dsimp only [List.set]
  exact loop (8 * (xw_w P)) 0 (Q2, B2, D2, m2) _ (by omega) ⟨q2, dp2, c2, b2⟩ hb0.symm

set_option maxRecDepth 100000 in
set_option maxHeartbeats 4000000 in
theorem xc_seekP (P : xw_T) (σ τ : xf_T) (ho : xs_okP (xw_n P) (xw_w P) σ) : xf_F (xw_l P) xny_WR_seekPath xnc_WR_seekPath 1 none 5 104 (xw_W P) (xw_D P) (xw_ty P) [.ref (xw_a P 3)] (σ, τ) none (xs_seekP (xw_w P) σ, τ) := by
  refine xf_start (own := xnR_WR) [some (.ref (xw_a P 3))] rfl (by decide) (Nat.le_of_ble_eq_true rfl) rfl (xf_cat rfl) ?_
  intro X hX hE
  refine xf_aload_n hX 1 rfl 0 xnd_WR_seekPath_0 rfl rfl ?_
  refine xg_WR_path hX 4 rfl xk_WR_24 xnd_WR_seekPath_1 ?_
  refine xf_aload_n hX 5 rfl 0 xnd_WR_seekPath_4 rfl rfl ?_
  refine xg_WR_key hX 8 rfl xk_WR_35 xnd_WR_seekPath_5 ?_
  refine xf_V1i hX 11 rfl (xc_seek P _ _ _ ho) xq_PA_seek xk_WR_142 xrX_PA rfl rfl xnd_WR_seekPath_8 ?_
  refine xf_if_eq hX 14 rfl 32 xnd_WR_seekPath_11 (by decide) (fun h11 => ?_) (fun h11 => ?_)
  · refine xf_aload_n hX 33 rfl 0 xnd_WR_seekPath_32 rfl rfl ?_
    refine xf_bipush hX 35 rfl (6) xnd_WR_seekPath_33 (by decide) ?_
    refine xp_WR_outcome hX 38 rfl xk_WR_28 xnd_WR_seekPath_35 ?_
    refine xf_vret hX hE xnd_WR_seekPath_38 ?_
    refine ⟨rfl, ?_⟩
    simp only [xs_seekP, eq_true h11, if_true, if_false]
  · refine xf_aload_n hX 15 rfl 0 xnd_WR_seekPath_14 rfl rfl ?_
    refine xf_aload_n hX 16 rfl 0 xnd_WR_seekPath_15 rfl rfl ?_
    refine xg_WR_path hX 19 rfl xk_WR_24 xnd_WR_seekPath_16 ?_
    refine xg_PA_length hX 22 rfl xk_WR_145 xnd_WR_seekPath_19 ?_
    refine xp_WR_moving hX 25 rfl xk_WR_148 xnd_WR_seekPath_22 ?_
    refine xf_aload_n hX 26 rfl 0 xnd_WR_seekPath_25 rfl rfl ?_
    refine xf_V0v hX 29 rfl (xc_chM P _ _) xq_WR_chooseMove xk_WR_151 xrX_WR rfl rfl xnd_WR_seekPath_26 ?_
    refine xf_goto hX 38 xnd_WR_seekPath_29 (by decide) ?_
    refine xf_vret hX hE xnd_WR_seekPath_38 ?_
    refine ⟨rfl, ?_⟩
    simp only [xs_seekP, h11, if_true, if_false]

