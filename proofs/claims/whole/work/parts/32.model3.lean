/-! Contracts of the reference: its search. Laid by wip/gen/model3.py. -/
theorem xm_pw {w k : Nat} (hw : 1 ≤ w ∧ w ≤ 4) (hk : k ≤ 5) : 0 < w ^ k ∧ w ^ k ≤ 1024 := by
  refine ⟨Nat.pow_pos (by omega), ?_⟩
  calc w ^ k ≤ 4 ^ k := Nat.pow_le_pow_left hw.2 k
    _ ≤ 4 ^ 5 := Nat.pow_le_pow_right (by omega) hk
    _ = 1024 := by decide
theorem xm_sbI (key : Int32) {y : Nat} (hy : y < 2) : xm_bk key (nI y) = nI (xm_sb key y) ∧ xm_sb key y < 8 := by
  obtain ⟨j, hj, e⟩ := xs_b1_is key
  obtain ⟨i, hi, e'⟩ := xs_b2_is key
  have h9 : y = 0 ∨ y = 1 := by omega
  rcases h9 with rfl | rfl
  · unfold xm_bk xm_sb
    rw [if_pos nI_0, if_pos rfl, e, nI_clamp (by omega)]
    exact ⟨rfl, hj⟩
  · unfold xm_bk xm_sb
    rw [if_neg (by decide), if_neg (by decide), e', nI_clamp (by omega)]
    exact ⟨rfl, hi⟩
theorem xm_nbI {w : Nat} (hw : 0 < w) (τ : xf_T) {p : Nat} (hp : p < 8 * w) : xs_ob (nI (p / w)) (τ.2 3 (τ.2 1 p - 1).toNatClampNeg) = nI (xm_nb w τ p) ∧ xm_nb w τ p < 8 := by
  have h8 : p / w < 8 := (Nat.div_lt_iff_lt_mul hw).mpr hp
  obtain ⟨j, hj, e⟩ := xs_ob_is h8 (τ.2 3 (τ.2 1 p - 1).toNatClampNeg)
  unfold xm_nb
  rw [e, nI_clamp (by omega)]
  exact ⟨rfl, hj⟩
set_option maxRecDepth 100000 in
set_option maxHeartbeats 4000000 in
theorem xm_cleadsK (P : xw_T) (σ τ : xf_T) (x d : Nat) (hd4 : d ≤ 4) (hw : 1 ≤ xw_w P ∧ xw_w P ≤ 4) {X : xf_C} (hX : xf_ok X (xw_l P) xnR_MO xnc_MO_leads 9 3 62 (xw_W P) (xw_D P) (xw_ty P)) {RES : Bool × (Nat → Int32)} (hE : xf_end X (some .boolean) (fun v u => v = some (.int (if RES.1 = true then 1 else 0)) ∧ u = (σ, xs_sA τ 9 RES.2))) (q p sz2 rs2 : Nat) (pt : Nat → Int32) (x6 x7 x8 : Option Value) (hq : q ≤ d) (hp : p < 8 * xw_w P) (NXT : Bool × (Nat → Int32)) (hR : (if (τ.2 1 p = 0 ↔ q = d) then NXT else (false, upd pt q (nI p))) = RES)
    (hnext : (¬ τ.2 1 p = 0 ∨ q = d) → NXT = RES → xf_V X 30 [some (.ref (xw_a P 100)), some (.int (nI x)), some (.int (nI d)), some (.int (nI sz2)), some (.int (nI rs2)), some (.int (nI (q + 1))), x6, x7, x8] [] (σ, xs_sA τ 9 (upd pt q (nI p)))) : xf_V X 163 [some (.ref (xw_a P 100)), some (.int (nI x)), some (.int (nI d)), some (.int (nI sz2)), some (.int (nI rs2)), some (.int (nI q)), x6, x7, x8] [] (σ, xs_sA τ 9 (upd pt q (nI p))) := by
  by_cases h1 : τ.2 1 p = 0
  · by_cases h2 : q = d
    · refine xf_aload_n hX 164 rfl 0 xnd_MO_leads_163 rfl rfl ?_
      refine xg_MO_held hX 167 rfl xk_MO_7 xnd_MO_leads_164 ?_
      refine xf_aload_n hX 168 rfl 0 xnd_MO_leads_167 rfl rfl ?_
      refine xg_MO_path hX 171 rfl xk_MO_39 xnd_MO_leads_168 ?_
      refine xf_iload hX 173 rfl xnd_MO_leads_171 rfl ?_
      refine xaM_iaload hX 174 rfl rfl (show vp_in _ 5 from vp_in_nI (by omega) (by omega)) xnd_MO_leads_173 ?_
      rw [nI_clamp (by omega)]
      change xf_V X 174 _ (.int (upd pt q (nI p) q) :: _) _
      rw [pk_us]
      refine xaM_iaload hX 175 rfl rfl (show vp_in _ 32 from vp_in_nI (by omega) (by omega)) xnd_MO_leads_174 ?_
      rw [nI_clamp (by omega)]
      change xf_V X 175 _ [.int (τ.2 1 p)] _
      refine xf_if_ne hX 178 rfl 182 xnd_MO_leads_175 (by decide) (fun h175 => absurd h1 h175) (fun _ => ?_)
      refine xf_iconst hX 179 rfl (1) xnd_MO_leads_178 (by decide) ?_
      refine xf_goto hX 183 xnd_MO_leads_179 (by decide) ?_
      refine xf_iload hX 185 rfl xnd_MO_leads_183 rfl ?_
      refine xf_iload_n hX 186 rfl 2 xnd_MO_leads_185 rfl rfl ?_
      refine xf_icmp_ne hX 189 rfl 193 xnd_MO_leads_186 (by decide) (fun h186 => absurd (by rw [h2]) h186) (fun _ => ?_)
      refine xf_iconst hX 190 rfl (1) xnd_MO_leads_189 (by decide) ?_
      refine xf_goto hX 194 xnd_MO_leads_190 (by decide) ?_
      refine xf_icmp_eq hX 197 rfl 199 xnd_MO_leads_194 (by decide) (fun _ => ?_) (fun h194 => False.elim (by revert h194; decide))
      refine xf_iinc hX 202 rfl (nI (q + 1)) xnd_MO_leads_199 rfl (by rw [nI_succ]; rfl) (by decide) ?_
      dsimp only [List.set]
      refine xf_goto hX 30 xnd_MO_leads_202 (by decide) ?_
      rw [if_pos ⟨fun _ => h2, fun _ => h1⟩] at hR
      exact hnext (Or.inr h2) hR
    · refine xf_aload_n hX 164 rfl 0 xnd_MO_leads_163 rfl rfl ?_
      refine xg_MO_held hX 167 rfl xk_MO_7 xnd_MO_leads_164 ?_
      refine xf_aload_n hX 168 rfl 0 xnd_MO_leads_167 rfl rfl ?_
      refine xg_MO_path hX 171 rfl xk_MO_39 xnd_MO_leads_168 ?_
      refine xf_iload hX 173 rfl xnd_MO_leads_171 rfl ?_
      refine xaM_iaload hX 174 rfl rfl (show vp_in _ 5 from vp_in_nI (by omega) (by omega)) xnd_MO_leads_173 ?_
      rw [nI_clamp (by omega)]
      change xf_V X 174 _ (.int (upd pt q (nI p) q) :: _) _
      rw [pk_us]
      refine xaM_iaload hX 175 rfl rfl (show vp_in _ 32 from vp_in_nI (by omega) (by omega)) xnd_MO_leads_174 ?_
      rw [nI_clamp (by omega)]
      change xf_V X 175 _ [.int (τ.2 1 p)] _
      refine xf_if_ne hX 178 rfl 182 xnd_MO_leads_175 (by decide) (fun h175 => absurd h1 h175) (fun _ => ?_)
      refine xf_iconst hX 179 rfl (1) xnd_MO_leads_178 (by decide) ?_
      refine xf_goto hX 183 xnd_MO_leads_179 (by decide) ?_
      refine xf_iload hX 185 rfl xnd_MO_leads_183 rfl ?_
      refine xf_iload_n hX 186 rfl 2 xnd_MO_leads_185 rfl rfl ?_
      refine xf_icmp_ne hX 189 rfl 193 xnd_MO_leads_186 (by decide) (fun _ => ?_) (fun h186 => absurd h186 (fun e => h2 (xb_inj (by omega) (by omega) e)))
      refine xf_iconst hX 194 rfl (0) xnd_MO_leads_193 (by decide) ?_
      refine xf_icmp_eq hX 197 rfl 199 xnd_MO_leads_194 (by decide) (fun h194 => False.elim (by revert h194; decide)) (fun _ => ?_)
      refine xf_iconst hX 198 rfl (0) xnd_MO_leads_197 (by decide) ?_
      refine xf_zret hX hE xnd_MO_leads_198 rfl ?_
      rw [if_neg (fun e => h2 (e.mp h1))] at hR
      rw [← hR]
      exact ⟨rfl, rfl⟩
  · by_cases h2 : q = d
    · refine xf_aload_n hX 164 rfl 0 xnd_MO_leads_163 rfl rfl ?_
      refine xg_MO_held hX 167 rfl xk_MO_7 xnd_MO_leads_164 ?_
      refine xf_aload_n hX 168 rfl 0 xnd_MO_leads_167 rfl rfl ?_
      refine xg_MO_path hX 171 rfl xk_MO_39 xnd_MO_leads_168 ?_
      refine xf_iload hX 173 rfl xnd_MO_leads_171 rfl ?_
      refine xaM_iaload hX 174 rfl rfl (show vp_in _ 5 from vp_in_nI (by omega) (by omega)) xnd_MO_leads_173 ?_
      rw [nI_clamp (by omega)]
      change xf_V X 174 _ (.int (upd pt q (nI p) q) :: _) _
      rw [pk_us]
      refine xaM_iaload hX 175 rfl rfl (show vp_in _ 32 from vp_in_nI (by omega) (by omega)) xnd_MO_leads_174 ?_
      rw [nI_clamp (by omega)]
      change xf_V X 175 _ [.int (τ.2 1 p)] _
      refine xf_if_ne hX 178 rfl 182 xnd_MO_leads_175 (by decide) (fun _ => ?_) (fun h175 => absurd h175 h1)
      refine xf_iconst hX 183 rfl (0) xnd_MO_leads_182 (by decide) ?_
      refine xf_iload hX 185 rfl xnd_MO_leads_183 rfl ?_
      refine xf_iload_n hX 186 rfl 2 xnd_MO_leads_185 rfl rfl ?_
      refine xf_icmp_ne hX 189 rfl 193 xnd_MO_leads_186 (by decide) (fun h186 => absurd (by rw [h2]) h186) (fun _ => ?_)
      refine xf_iconst hX 190 rfl (1) xnd_MO_leads_189 (by decide) ?_
      refine xf_goto hX 194 xnd_MO_leads_190 (by decide) ?_
      refine xf_icmp_eq hX 197 rfl 199 xnd_MO_leads_194 (by decide) (fun h194 => False.elim (by revert h194; decide)) (fun _ => ?_)
      refine xf_iconst hX 198 rfl (0) xnd_MO_leads_197 (by decide) ?_
      refine xf_zret hX hE xnd_MO_leads_198 rfl ?_
      rw [if_neg (fun e => h1 (e.mpr h2))] at hR
      rw [← hR]
      exact ⟨rfl, rfl⟩
    · refine xf_aload_n hX 164 rfl 0 xnd_MO_leads_163 rfl rfl ?_
      refine xg_MO_held hX 167 rfl xk_MO_7 xnd_MO_leads_164 ?_
      refine xf_aload_n hX 168 rfl 0 xnd_MO_leads_167 rfl rfl ?_
      refine xg_MO_path hX 171 rfl xk_MO_39 xnd_MO_leads_168 ?_
      refine xf_iload hX 173 rfl xnd_MO_leads_171 rfl ?_
      refine xaM_iaload hX 174 rfl rfl (show vp_in _ 5 from vp_in_nI (by omega) (by omega)) xnd_MO_leads_173 ?_
      rw [nI_clamp (by omega)]
      change xf_V X 174 _ (.int (upd pt q (nI p) q) :: _) _
      rw [pk_us]
      refine xaM_iaload hX 175 rfl rfl (show vp_in _ 32 from vp_in_nI (by omega) (by omega)) xnd_MO_leads_174 ?_
      rw [nI_clamp (by omega)]
      change xf_V X 175 _ [.int (τ.2 1 p)] _
      refine xf_if_ne hX 178 rfl 182 xnd_MO_leads_175 (by decide) (fun _ => ?_) (fun h175 => absurd h175 h1)
      refine xf_iconst hX 183 rfl (0) xnd_MO_leads_182 (by decide) ?_
      refine xf_iload hX 185 rfl xnd_MO_leads_183 rfl ?_
      refine xf_iload_n hX 186 rfl 2 xnd_MO_leads_185 rfl rfl ?_
      refine xf_icmp_ne hX 189 rfl 193 xnd_MO_leads_186 (by decide) (fun _ => ?_) (fun h186 => absurd h186 (fun e => h2 (xb_inj (by omega) (by omega) e)))
      refine xf_iconst hX 194 rfl (0) xnd_MO_leads_193 (by decide) ?_
      refine xf_icmp_eq hX 197 rfl 199 xnd_MO_leads_194 (by decide) (fun _ => ?_) (fun h194 => False.elim (by revert h194; decide))
      refine xf_iinc hX 202 rfl (nI (q + 1)) xnd_MO_leads_199 rfl (by rw [nI_succ]; rfl) (by decide) ?_
      dsimp only [List.set]
      refine xf_goto hX 30 xnd_MO_leads_202 (by decide) ?_
      rw [if_pos ⟨fun e => absurd e h1, fun e => absurd e h2⟩] at hR
      exact hnext (Or.inl h1) hR

set_option maxRecDepth 100000 in
set_option maxHeartbeats 4000000 in
theorem xm_cleadsL (P : xw_T) (σ τ : xf_T) (x d : Nat) (hd4 : d ≤ 4) (ho : xm_okP (xw_n P) (xw_w P) τ) {X : xf_C} (hX : xf_ok X (xw_l P) xnR_MO xnc_MO_leads 9 3 62 (xw_W P) (xw_D P) (xw_ty P)) {RES : Bool × (Nat → Int32)} (hE : xf_end X (some .boolean) (fun v u => v = some (.int (if RES.1 = true then 1 else 0)) ∧ u = (σ, xs_sA τ 9 RES.2))) : ∀ r q rest size pt x6 x7 x8, r + q = d + 1 → (q ≤ d → size = (xw_w P) ^ (d - q) ∧ rest < size * (if q = 0 then 2 * (xw_w P) else (xw_w P))) → (size ≤ 1024 ∧ rest < 8192) → (0 < q → q ≤ d → ∃ p1, pt (q - 1) = nI p1 ∧ p1 < 8 * (xw_w P) ∧ ¬ τ.2 1 p1 = 0) → xe_ld (xw_w P) (xm_sb (τ.1 6)) (xm_nb (xw_w P) τ) (τ.2 1) d r q rest size pt = RES → xf_V X 30 [some (.ref (xw_a P 100)), some (.int (nI x)), some (.int (nI d)), some (.int (nI size)), some (.int (nI rest)), some (.int (nI q)), x6, x7, x8] [] (σ, xs_sA τ 9 pt) := by
  have hw0 := ho.2
  have hw : 1 ≤ xw_w P ∧ xw_w P ≤ 4 := by omega
  intro r
  induction r with
  | zero =>
    intro q rest size pt x6 x7 x8 hrq hA hB hC hR
    refine xf_iload hX 32 rfl xnd_MO_leads_30 rfl ?_
    refine xf_iload_n hX 33 rfl 2 xnd_MO_leads_32 rfl rfl ?_
    refine xf_icmp_gt hX 36 rfl 205 xnd_MO_leads_33 (by decide) (fun _ => ?_) (fun h33 => absurd (nI_lt (by omega) (by omega)) h33)
    refine xf_iconst hX 206 rfl (1) xnd_MO_leads_205 (by decide) ?_
    refine xf_zret hX hE xnd_MO_leads_206 rfl ?_
    rw [xe_ld] at hR
    rw [← hR]
    exact ⟨rfl, rfl⟩
  | succ r ih =>
    intro q rest size pt x6 x7 x8 hrq hA hB hC hR
    have hqd : q ≤ d := by omega
    obtain ⟨hS, hRs⟩ := hA hqd
    have hSp : 0 < size := by rw [hS]; exact (xm_pw hw (by omega)).1
    have hrm := Nat.mod_lt rest hSp
    have hdiv : rest / size ≤ rest := Nat.div_le_self _ _
    have hsd : size / (xw_w P) ≤ size := Nat.div_le_self _ _
    have hnx : ∀ {q1 : Prop}, q1 → (q + 1 ≤ d → size / (xw_w P) = (xw_w P) ^ (d - (q + 1)) ∧ rest % size < size / (xw_w P) * (if q + 1 = 0 then 2 * (xw_w P) else (xw_w P))) := by
      intro _ _ hq1
      have e1 : (xw_w P) ^ (d - q) = (xw_w P) ^ (d - (q + 1)) * (xw_w P) := by rw [← Nat.pow_succ]; congr 1; omega
      have e2 : size / (xw_w P) = (xw_w P) ^ (d - (q + 1)) := by rw [hS, e1, Nat.mul_div_cancel _ (by omega)]
      refine ⟨e2, ?_⟩
      rw [if_neg (by omega), e2, ← e1, ← hS]
      exact hrm
    have hoc : ∀ {p : Nat}, (¬ τ.2 1 p = 0 ∨ q = d) → q + 1 ≤ d → ¬ τ.2 1 p = 0 := by
      intro p h9 h8
      rcases h9 with h | h
      · exact h
      · omega
    rw [xe_ld] at hR
    by_cases hq0 : q = 0
    · subst hq0
      rw [if_pos rfl] at hR hRs
      have hdw : rest / size < 2 * (xw_w P) := (Nat.div_lt_iff_lt_mul hSp).mpr (by rw [Nat.mul_comm]; exact hRs)
      have hy2 : rest / size / (xw_w P) < 2 := (Nat.div_lt_iff_lt_mul (by omega)).mpr hdw
      have hml := Nat.mod_lt (rest / size) (show 0 < (xw_w P) by omega)
      have hp8 : (xw_w P) * xm_sb (τ.1 6) (rest / size / (xw_w P)) + rest / size % (xw_w P) < 8 * (xw_w P) := by
        have := xr_bkb (w := (xw_w P)) (xm_sbI (τ.1 6) hy2).2
        omega
      refine xf_iload hX 32 rfl xnd_MO_leads_30 rfl ?_
      refine xf_iload_n hX 33 rfl 2 xnd_MO_leads_32 rfl rfl ?_
      refine xf_icmp_gt hX 36 rfl 205 xnd_MO_leads_33 (by decide) (fun h33 => absurd h33 (nI_nlt (by omega) (by omega))) (fun _ => ?_)
      refine xf_iload hX 38 rfl xnd_MO_leads_36 rfl ?_
      refine xf_iload_n hX 39 rfl 3 xnd_MO_leads_38 rfl rfl ?_
      refine xf_idiv hX 40 rfl xnd_MO_leads_39 (nI_ne0 (by omega) (by omega)) ?_
      rw [pk_div (by omega) (by omega) (by omega)]
      refine xf_istore hX 42 rfl xnd_MO_leads_40 (by decide) ?_
      dsimp only [List.set]
      refine xf_iload hX 44 rfl xnd_MO_leads_42 rfl ?_
      refine xf_iload_n hX 45 rfl 3 xnd_MO_leads_44 rfl rfl ?_
      refine xf_irem hX 46 rfl xnd_MO_leads_45 (nI_ne0 (by omega) (by omega)) ?_
      rw [pk_rem (by omega) (by omega) (by omega)]
      refine xf_istore hX 48 rfl xnd_MO_leads_46 (by decide) ?_
      dsimp only [List.set]
      refine xf_iload_n hX 49 rfl 3 xnd_MO_leads_48 rfl rfl ?_
      refine xf_aload_n hX 50 rfl 0 xnd_MO_leads_49 rfl rfl ?_
      refine xg_MO_ways hX 53 rfl xk_MO_69 xnd_MO_leads_50 ?_
      refine xf_idiv hX 54 rfl xnd_MO_leads_53 (nI_ne0 (by omega) (by omega)) ?_
      rw [pk_div (by omega) (by omega) (by omega)]
      refine xf_istore_n hX 55 rfl 3 xnd_MO_leads_54 rfl (by decide) ?_
      dsimp only [List.set]
      refine xf_iload hX 57 rfl xnd_MO_leads_55 rfl ?_
      refine xf_if_ne hX 60 rfl 96 xnd_MO_leads_57 (by decide) (fun h57 => False.elim (by revert h57; decide)) (fun _ => ?_)
      refine xf_aload_n hX 61 rfl 0 xnd_MO_leads_60 rfl rfl ?_
      refine xg_MO_path hX 64 rfl xk_MO_39 xnd_MO_leads_61 ?_
      refine xf_iconst hX 65 rfl (0) xnd_MO_leads_64 (by decide) ?_
      refine xf_aload_n hX 66 rfl 0 xnd_MO_leads_65 rfl rfl ?_
      refine xg_MO_ways hX 69 rfl xk_MO_69 xnd_MO_leads_66 ?_
      refine xf_aload_n hX 70 rfl 0 xnd_MO_leads_69 rfl rfl ?_
      refine xg_MO_key hX 73 rfl xk_MO_105 xnd_MO_leads_70 ?_
      refine xf_iload hX 75 rfl xnd_MO_leads_73 rfl ?_
      refine xf_aload_n hX 76 rfl 0 xnd_MO_leads_75 rfl rfl ?_
      refine xg_MO_ways hX 79 rfl xk_MO_69 xnd_MO_leads_76 ?_
      refine xf_idiv hX 80 rfl xnd_MO_leads_79 (nI_ne0 (by omega) (by omega)) ?_
      rw [pk_div (by omega) (by omega) (by omega)]
      refine xf_S2i hX 83 rfl (xm_cbk P _ _ _ _) xq_MO_bucket xk_MO_80 rfl rfl xnd_MO_leads_80 ?_
      rw [(xm_sbI _ hy2).1]
      refine xf_imul hX 84 rfl xnd_MO_leads_83 ?_
      rw [pk_mul]
      refine xf_iload hX 86 rfl xnd_MO_leads_84 rfl ?_
      refine xf_aload_n hX 87 rfl 0 xnd_MO_leads_86 rfl rfl ?_
      refine xg_MO_ways hX 90 rfl xk_MO_69 xnd_MO_leads_87 ?_
      refine xf_irem hX 91 rfl xnd_MO_leads_90 (nI_ne0 (by omega) (by omega)) ?_
      rw [pk_rem (by omega) (by omega) (by omega)]
      refine xf_iadd hX 92 rfl xnd_MO_leads_91 ?_
      rw [nI_add]
      refine xaM_iastore hX 93 rfl rfl (show vp_in _ 5 from vp_in_nI (n := 0) (by omega) (by omega)) xnd_MO_leads_92 ?_
      rw [xs_A_sA]
      refine xf_goto hX 163 xnd_MO_leads_93 (by decide) ?_
      change xf_V X 163 _ [] (σ, xs_sA τ 9 (upd pt 0 (nI ((xw_w P) * xm_sb (τ.1 6) ((rest / size) / (xw_w P)) + (rest / size) % (xw_w P)))))
      refine xm_cleadsK P σ τ x d hd4 hw hX hE 0 _ (size / (xw_w P)) (rest % size) pt _ _ _ hqd hp8 _ hR (fun hcn hR2 => ?_)
      have hex := hnx hcn
      exact ih 1 _ _ _ _ _ _ (by omega) hex ⟨by omega, by omega⟩ (fun _ hq9 => ⟨_, by show upd pt 0 _ 0 = _; rw [pk_us], hp8, hoc hcn hq9⟩) hR2
    · obtain ⟨e, rfl⟩ : ∃ e, q = e + 1 := ⟨q - 1, by omega⟩
      rw [if_neg hq0] at hR hRs
      obtain ⟨p1, g1, g2, g3⟩ := hC (by omega) hqd
      have g1 : pt e = nI p1 := g1
      have hcl : (pt (e + 1 - 1)).toNatClampNeg = p1 := by rw [show e + 1 - 1 = e from rfl, g1]; exact nI_clamp (by omega)
      rw [hcl] at hR
      have hdw : rest / size < (xw_w P) := (Nat.div_lt_iff_lt_mul hSp).mpr (by rw [Nat.mul_comm]; exact hRs)
      have hp8 : (xw_w P) * xm_nb (xw_w P) τ p1 + rest / size < 8 * (xw_w P) := by
        have := xr_bkb (w := (xw_w P)) (xm_nbI (by omega) τ g2).2
        omega
      refine xf_iload hX 32 rfl xnd_MO_leads_30 rfl ?_
      refine xf_iload_n hX 33 rfl 2 xnd_MO_leads_32 rfl rfl ?_
      refine xf_icmp_gt hX 36 rfl 205 xnd_MO_leads_33 (by decide) (fun h33 => absurd h33 (nI_nlt (by omega) (by omega))) (fun _ => ?_)
      refine xf_iload hX 38 rfl xnd_MO_leads_36 rfl ?_
      refine xf_iload_n hX 39 rfl 3 xnd_MO_leads_38 rfl rfl ?_
      refine xf_idiv hX 40 rfl xnd_MO_leads_39 (nI_ne0 (by omega) (by omega)) ?_
      rw [pk_div (by omega) (by omega) (by omega)]
      refine xf_istore hX 42 rfl xnd_MO_leads_40 (by decide) ?_
      dsimp only [List.set]
      refine xf_iload hX 44 rfl xnd_MO_leads_42 rfl ?_
      refine xf_iload_n hX 45 rfl 3 xnd_MO_leads_44 rfl rfl ?_
      refine xf_irem hX 46 rfl xnd_MO_leads_45 (nI_ne0 (by omega) (by omega)) ?_
      rw [pk_rem (by omega) (by omega) (by omega)]
      refine xf_istore hX 48 rfl xnd_MO_leads_46 (by decide) ?_
      dsimp only [List.set]
      refine xf_iload_n hX 49 rfl 3 xnd_MO_leads_48 rfl rfl ?_
      refine xf_aload_n hX 50 rfl 0 xnd_MO_leads_49 rfl rfl ?_
      refine xg_MO_ways hX 53 rfl xk_MO_69 xnd_MO_leads_50 ?_
      refine xf_idiv hX 54 rfl xnd_MO_leads_53 (nI_ne0 (by omega) (by omega)) ?_
      rw [pk_div (by omega) (by omega) (by omega)]
      refine xf_istore_n hX 55 rfl 3 xnd_MO_leads_54 rfl (by decide) ?_
      dsimp only [List.set]
      refine xf_iload hX 57 rfl xnd_MO_leads_55 rfl ?_
      refine xf_if_ne hX 60 rfl 96 xnd_MO_leads_57 (by decide) (fun _ => ?_) (fun h57 => absurd h57 (nI_ne0 (by omega) (by omega)))
      refine xf_aload_n hX 97 rfl 0 xnd_MO_leads_96 rfl rfl ?_
      refine xg_MO_keys hX 100 rfl xk_MO_17 xnd_MO_leads_97 ?_
      refine xf_aload_n hX 101 rfl 0 xnd_MO_leads_100 rfl rfl ?_
      refine xg_MO_held hX 104 rfl xk_MO_7 xnd_MO_leads_101 ?_
      refine xf_aload_n hX 105 rfl 0 xnd_MO_leads_104 rfl rfl ?_
      refine xg_MO_path hX 108 rfl xk_MO_39 xnd_MO_leads_105 ?_
      refine xf_iload hX 110 rfl xnd_MO_leads_108 rfl ?_
      refine xf_iconst hX 111 rfl (1) xnd_MO_leads_110 (by decide) ?_
      refine xf_isub hX 112 rfl xnd_MO_leads_111 ?_
      rw [nI_pred]
      refine xaM_iaload hX 113 rfl rfl (show vp_in _ 5 from vp_in_nI (by omega) (by omega)) xnd_MO_leads_112 ?_
      rw [nI_clamp (by omega)]
      change xf_V X 113 _ (.int (pt e) :: _) _
      rw [g1]
      refine xaM_iaload hX 114 rfl rfl (show vp_in _ 32 from vp_in_nI (by omega) (by omega)) xnd_MO_leads_113 ?_
      rw [nI_clamp (by omega)]
      change xf_V X 114 _ (.int (τ.2 1 p1) :: _) _
      refine xf_iconst hX 115 rfl (1) xnd_MO_leads_114 (by decide) ?_
      refine xf_isub hX 116 rfl xnd_MO_leads_115 ?_
      refine xaM_iaload hX 117 rfl rfl (ho.in g2 g3) xnd_MO_leads_116 ?_
      change xf_V X 117 _ [.int (τ.2 3 (τ.2 1 p1 - 1).toNatClampNeg)] _
      refine xf_istore hX 119 rfl xnd_MO_leads_117 (by decide) ?_
      dsimp only [List.set]
      refine xf_aload_n hX 120 rfl 0 xnd_MO_leads_119 rfl rfl ?_
      refine xg_MO_path hX 123 rfl xk_MO_39 xnd_MO_leads_120 ?_
      refine xf_iload hX 125 rfl xnd_MO_leads_123 rfl ?_
      refine xf_iconst hX 126 rfl (1) xnd_MO_leads_125 (by decide) ?_
      refine xf_isub hX 127 rfl xnd_MO_leads_126 ?_
      rw [nI_pred]
      refine xaM_iaload hX 128 rfl rfl (show vp_in _ 5 from vp_in_nI (by omega) (by omega)) xnd_MO_leads_127 ?_
      rw [nI_clamp (by omega)]
      change xf_V X 128 _ (.int (pt e) :: _) _
      rw [g1]
      refine xf_aload_n hX 129 rfl 0 xnd_MO_leads_128 rfl rfl ?_
      refine xg_MO_ways hX 132 rfl xk_MO_69 xnd_MO_leads_129 ?_
      refine xf_idiv hX 133 rfl xnd_MO_leads_132 (nI_ne0 (by omega) (by omega)) ?_
      rw [pk_div (by omega) (by omega) (by omega)]
      refine xf_iconst hX 134 rfl (1) xnd_MO_leads_133 (by decide) ?_
      refine xf_iload hX 136 rfl xnd_MO_leads_134 rfl ?_
      refine xf_S1i hX 139 rfl (xm_ctag P _ _ _) xq_MO_tag xk_MO_77 rfl rfl xnd_MO_leads_136 ?_
      refine xf_bipush hX 141 rfl (7) xnd_MO_leads_139 (by decide) ?_
      refine xf_irem hX 142 rfl xnd_MO_leads_141 (by decide) ?_
      refine xf_iadd hX 143 rfl xnd_MO_leads_142 ?_
      refine xf_ixor hX 144 rfl xnd_MO_leads_143 ?_
      change xf_V X 144 _ [.int (xs_ob (nI (p1 / (xw_w P))) (τ.2 3 (τ.2 1 p1 - 1).toNatClampNeg))] _
      rw [(xm_nbI (by omega) τ g2).1]
      refine xf_istore hX 146 rfl xnd_MO_leads_144 (by decide) ?_
      dsimp only [List.set]
      refine xf_aload_n hX 147 rfl 0 xnd_MO_leads_146 rfl rfl ?_
      refine xg_MO_path hX 150 rfl xk_MO_39 xnd_MO_leads_147 ?_
      refine xf_iload hX 152 rfl xnd_MO_leads_150 rfl ?_
      refine xf_aload_n hX 153 rfl 0 xnd_MO_leads_152 rfl rfl ?_
      refine xg_MO_ways hX 156 rfl xk_MO_69 xnd_MO_leads_153 ?_
      refine xf_iload hX 158 rfl xnd_MO_leads_156 rfl ?_
      refine xf_imul hX 159 rfl xnd_MO_leads_158 ?_
      rw [pk_mul]
      refine xf_iload hX 161 rfl xnd_MO_leads_159 rfl ?_
      refine xf_iadd hX 162 rfl xnd_MO_leads_161 ?_
      rw [nI_add]
      refine xaM_iastore hX 163 rfl rfl (show vp_in _ 5 from vp_in_nI (by omega) (by omega)) xnd_MO_leads_162 ?_
      rw [nI_clamp (by omega), xs_A_sA]
      refine xm_cleadsK P σ τ x d hd4 hw hX hE (e + 1) _ (size / (xw_w P)) (rest % size) pt _ _ _ hqd hp8 _ hR (fun hcn hR2 => ?_)
      exact ih (e + 1 + 1) _ _ _ _ _ _ (by omega) (hnx hcn) ⟨by omega, by omega⟩ (fun _ hq9 => ⟨_, by show upd pt (e + 1) _ (e + 1) = _; rw [pk_us], hp8, hoc hcn hq9⟩) hR2

set_option maxRecDepth 100000 in
set_option maxHeartbeats 4000000 in
theorem xm_cleads (P : xw_T) (σ τ : xf_T) (pt : Nat → Int32) (x d : Nat) (hd4 : d ≤ 4) (hx : x < 2 * (xw_w P) * (xw_w P) ^ d) (ho : xm_okP (xw_n P) (xw_w P) τ) : xf_F (xw_l P) xny_MO_leads xnc_MO_leads 9 (some .boolean) 3 62 (xw_W P) (xw_D P) (xw_ty P) [.ref (xw_a P 100), .int (nI x), .int (nI d)] (σ, xs_sA τ 9 pt) (some (.int (if (xe_ld (xw_w P) (xm_sb (τ.1 6)) (xm_nb (xw_w P) τ) (τ.2 1) d (d + 1) 0 x ((xw_w P) ^ d) pt).1 = true then 1 else 0))) (σ, xs_sA τ 9 (xe_ld (xw_w P) (xm_sb (τ.1 6)) (xm_nb (xw_w P) τ) (τ.2 1) d (d + 1) 0 x ((xw_w P) ^ d) pt).2) := by
  refine xf_start (own := xnR_MO) [some (.ref (xw_a P 100)), some (.int (nI x)), some (.int (nI d)), none, none, none, none, none, none] rfl (by decide) (Nat.le_of_ble_eq_true rfl) rfl (xf_cat rfl) ?_
  intro X hX hE
  have hw0 := ho.2
  have hw : 1 ≤ xw_w P ∧ xw_w P ≤ 4 := by omega
  have hx8 : x < 8192 := by
    have h1 := (xm_pw (k := d) hw (by omega)).2
    have h2 : 2 * xw_w P * xw_w P ^ d ≤ 8 * 1024 := Nat.mul_le_mul (by omega) h1
    omega
  have loop2 := xm_cleadsL P σ τ x d hd4 ho hX hE
  have loop1 : ∀ r q, r + q = d → xf_V X 5 [some (.ref (xw_a P 100)), some (.int (nI x)), some (.int (nI d)), some (.int (nI ((xw_w P) ^ q))), some (.int (nI q)), none, none, none, none] [] (σ, xs_sA τ 9 pt) := by
    intro r
    induction r with
    | zero =>
      intro q hrq
      have hpq := xm_pw (k := q) hw (by omega)
      refine xf_iload hX 7 rfl xnd_MO_leads_5 rfl ?_
      refine xf_iload_n hX 8 rfl 2 xnd_MO_leads_7 rfl rfl ?_
      refine xf_icmp_ge hX 11 rfl 24 xnd_MO_leads_8 (by decide) (fun _ => ?_) (fun h8 => absurd (nI_le (by omega) (by omega)) h8)
      refine xf_iload_n hX 25 rfl 1 xnd_MO_leads_24 rfl rfl ?_
      refine xf_istore hX 27 rfl xnd_MO_leads_25 (by decide) ?_
      dsimp only [List.set]
      refine xf_iconst hX 28 rfl (0) xnd_MO_leads_27 (by decide) ?_
      refine xf_istore hX 30 rfl xnd_MO_leads_28 (by decide) ?_
      dsimp only [List.set]
      have hqd : q = d := by omega
      subst hqd
      exact loop2 (q + 1) 0 x ((xw_w P) ^ q) pt _ _ _ (by omega) (fun _ => ⟨rfl, by rw [if_pos rfl, Nat.mul_comm]; exact hx⟩) ⟨hpq.2, by omega⟩ (fun h9 => by omega) rfl
    | succ r ih =>
      intro q hrq
      have hpq := xm_pw (k := q) hw (by omega)
      refine xf_iload hX 7 rfl xnd_MO_leads_5 rfl ?_
      refine xf_iload_n hX 8 rfl 2 xnd_MO_leads_7 rfl rfl ?_
      refine xf_icmp_ge hX 11 rfl 24 xnd_MO_leads_8 (by decide) (fun h8 => absurd h8 (nI_ge (by omega) (by omega))) (fun _ => ?_)
      refine xf_iload_n hX 12 rfl 3 xnd_MO_leads_11 rfl rfl ?_
      refine xf_aload_n hX 13 rfl 0 xnd_MO_leads_12 rfl rfl ?_
      refine xg_MO_ways hX 16 rfl xk_MO_69 xnd_MO_leads_13 ?_
      refine xf_imul hX 17 rfl xnd_MO_leads_16 ?_
      rw [pk_mul, ← Nat.pow_succ]
      refine xf_istore_n hX 18 rfl 3 xnd_MO_leads_17 rfl (by decide) ?_
      dsimp only [List.set]
      refine xf_iinc hX 21 rfl (nI (q + 1)) xnd_MO_leads_18 rfl (by rw [nI_succ]; rfl) (by decide) ?_
      dsimp only [List.set]
      refine xf_goto hX 5 xnd_MO_leads_21 (by decide) ?_
      exact ih (q + 1) (by omega)
  refine xf_iconst hX 1 rfl (1) xnd_MO_leads_0 (by decide) ?_
  refine xf_istore_n hX 2 rfl 3 xnd_MO_leads_1 rfl (by decide) ?_
  dsimp only [List.set]
  refine xf_iconst hX 3 rfl (0) xnd_MO_leads_2 (by decide) ?_
  refine xf_istore hX 5 rfl xnd_MO_leads_3 (by decide) ?_
  dsimp only [List.set]
  exact loop1 d 0 (by omega)

