/-! A write's steps, side by side: searching, moving, inserting; a step of the writer. -/
section XRP
variable {w : Nat} {sb nb nb' : Nat → Nat} {oc oc' : Nat → Prop}
/-- two graphs that agree where places are occupied have the same paths -/
theorem xr_path (hw : 0 < w) (hs : ∀ y, y < 2 → sb y < 8) (ho : ∀ p, p < 8 * w → (oc p ↔ oc' p)) (hn : ∀ p, p < 8 * w → oc p → nb p = nb' p ∧ nb p < 8) :
    ∀ (d x : Nat), x < 2 * w * w ^ d → xb_ok w sb nb oc d x → xb_at w sb nb d x = xb_at w sb nb' d x ∧ xb_ok w sb nb' oc' d x ∧ xb_at w sb nb d x < 8 * w
  | 0, x, hx, _ => by
    refine ⟨rfl, trivial, ?_⟩
    have h2 : x / w < 2 := (Nat.div_lt_iff_lt_mul hw).mpr (by simpa using hx)
    have h8 := xr_bkb (w := w) (hs _ h2)
    have hm := Nat.mod_lt x hw
    rw [xb_at]
    omega
  | d + 1, x, hx, hok => by
    have hx' : x / w < 2 * w * w ^ d := by
      rw [Nat.pow_succ, ← Nat.mul_assoc] at hx
      exact (Nat.div_lt_iff_lt_mul hw).mpr hx
    obtain ⟨e1, e2, e3⟩ := xr_path hw hs ho hn d (x / w) hx' hok.1
    obtain ⟨n1, n2⟩ := hn _ e3 hok.2
    refine ⟨by rw [xb_at, xb_at, ← e1, n1], ⟨e2, by rw [← e1]; exact (ho _ e3).mp hok.2⟩, ?_⟩
    have h8 := xr_bkb (w := w) n2
    have hm := Nat.mod_lt x hw
    rw [xb_at]
    omega
theorem xb_ok_pre : ∀ (d x j : Nat), j ≤ d → xb_ok w sb nb oc d x → xb_ok w sb nb oc j (x / w ^ (d - j))
  | 0, x, j, hj, h => by
    have : j = 0 := by omega
    subst this
    exact trivial
  | d + 1, x, j, hj, h => by
    by_cases hjd : j = d + 1
    · subst hjd
      rw [Nat.sub_self, Nat.pow_zero, Nat.div_one]
      exact h
    · have := xb_ok_pre d (x / w) j (by omega) h.1
      rw [Nat.div_div_eq_div_mul] at this
      rw [show d + 1 - j = (d - j) + 1 by omega, Nat.pow_succ, Nat.mul_comm]
      exact this
theorem xb_pre_lt (hw : 0 < w) {d x j : Nat} (hj : j ≤ d) (hx : x < 2 * w * w ^ d) : x / w ^ (d - j) < 2 * w * w ^ j := by
  rw [Nat.div_lt_iff_lt_mul (Nat.pow_pos hw), Nat.mul_assoc, ← Nat.pow_add, show j + (d - j) = d by omega]
  exact hx
/-- what the class's search says -/
theorem xs_bfs_is (hw0 : 0 < w) (hw : 8 * w < 2 ^ 31) {σ : xf_T} (hnb : ∀ p, p < 8 * w → xs_nb w σ p < 8) :
    ∀ (r h : Nat) (a : (Nat → Int32) × (Nat → Int32) × (Nat → Int32) × Nat) (q dep cd : Nat → Nat), r + h = 8 * w → xb_inv w sb (xs_nb w σ) (fun p => ¬ σ.2 5 p = -1) h h a.2.2.2 a.1 a.2.1 a.2.2.1 q dep cd → xb_sta w sb (xs_nb w σ) a.2.2.2 q dep cd →
      ((xs_bfs w σ r h a).1 = none ∧ ∃ (m : Nat) (Q Bf Dp : Nat → Int32) (q dep cd : Nat → Nat), xb_inv w sb (xs_nb w σ) (fun p => ¬ σ.2 5 p = -1) m m m Q Bf Dp q dep cd ∧ xb_sta w sb (xs_nb w σ) m q dep cd) ∨
      (∃ (i m : Nat) (Q Bf Dp : Nat → Int32) (q dep cd : Nat → Nat), xs_bfs w σ r h a = (some (q i), Q, Bf, Dp, m) ∧ i < m ∧ σ.2 5 (q i) = -1 ∧ xb_inv w sb (xs_nb w σ) (fun p => ¬ σ.2 5 p = -1) i i m Q Bf Dp q dep cd ∧ xb_sta w sb (xs_nb w σ) m q dep cd)
  | 0, h, a, q, dep, cd, hr, I, S => by
    have h1 := I.le
    have h2 := I.2.2.2.2.1
    have e : h = a.2.2.2 := by omega
    rw [xs_bfs]
    rw [e] at I
    exact Or.inl ⟨rfl, _, _, _, _, q, dep, cd, I, S⟩
  | r + 1, h, a, q, dep, cd, hr, I, S => by
    rw [xs_bfs]
    by_cases hm : h < a.2.2.2
    · obtain ⟨eQ, e1, e2, e3, -⟩ := I.1 h hm
      have hcl : (nI (q h)).toNatClampNeg = q h := nI_clamp (by omega)
      rw [if_pos hm, eQ, hcl]
      by_cases hf : σ.2 5 (q h) = -1
      · rw [if_pos hf]
        exact Or.inr ⟨h, a.2.2.2, a.1, a.2.1, a.2.2.1, q, dep, cd, rfl, hm, hf, I, S⟩
      · rw [if_neg hf, e2]
        by_cases h4 : (4 : Int32) ≤ nI (dep (q h))
        · have hd4 : ¬ dep (q h) < 4 := by rw [show (4 : Int32) = nI 4 from rfl, nI_leI (by omega) (by omega)] at h4; omega
          rw [if_pos h4]
          exact xs_bfs_is hw0 hw hnb r (h + 1) a q dep cd (by omega) (xb_skip I hm hf hd4) S
        · have hd4 : dep (q h) < 4 := by rw [show (4 : Int32) = nI 4 from rfl, nI_leI (by omega) (by omega)] at h4; omega
          obtain ⟨m', Q', Bf', Dp', q', dep', cd', g1, g2, g3⟩ := xb_expand hw0 hw I hm hf hd4 (hnb _ e1)
          have g1 : xb_enter (nI (q h)) (nI (dep (q h) + 1)) w (w * xs_nb w σ (q h)) a = (Q', Bf', Dp', m') := g1
          rw [if_neg h4, nI_1, g1]
          exact xs_bfs_is hw0 hw hnb r (h + 1) (Q', Bf', Dp', m') q' dep' cd' (by omega) g2 (S.ext g3)
    · have h2 := I.2.2.2.2.1
      have e : h = a.2.2.2 := by omega
      rw [if_neg hm]
      rw [e] at I
      exact Or.inl ⟨rfl, _, _, _, _, q, dep, cd, I, S⟩
end XRP
section XRQ
variable {n w : Nat} {σ τ : xf_T}
/-- both searches find the same path, or none -/
theorem xr_both (hc : xr_core n w σ τ) (key : Int32) (ek : τ.1 6 = key) :
    ((xs_bfs0 w σ key).1 = none ∧ (xm_sk w τ).1 = none) ∨
    ∃ (d p : Nat) (pt : Nat → Nat) (Q Bf Dp : Nat → Int32) (m : Nat), d ≤ 4 ∧ xs_bfs0 w σ key = (some p, Q, Bf, Dp, m) ∧ (xm_sk w τ).1 = some d ∧ p < 8 * w ∧ Dp p = nI d ∧
      (∀ (f : Nat → Int32) (j : Nat), j ≤ d → xb_keep Bf d (nI p) f j = nI (pt j)) ∧ (∀ j, j ≤ d → (xm_sk w τ).2 j = nI (pt j) ∧ pt j < 8 * w) ∧ (∀ j, j < d → ¬ σ.2 5 (pt j) = -1) ∧ ∀ i j, i < j → j ≤ d → pt i ≠ pt j := by
  have hn := hc.2.2.2.2.2.2.2.2.2
  have hb := hc.b31
  have hw0 : 0 < w := by omega
  obtain ⟨hs0, hs1⟩ := xm_sb_lt key
  have hs : ∀ y, y < 2 → xm_sb key y < 8 := by
    intro y hy
    have h9 : y = 0 ∨ y = 1 := by omega
    rcases h9 with rfl | rfl
    · exact hs0
    · exact hs1
  have hnb : ∀ p, p < 8 * w → xs_nb w σ p < 8 := fun p hp => (xs_nb_lt hw0 σ hp).1
  have hoc : ∀ p, p < 8 * w → ((¬ σ.2 5 p = -1) ↔ ¬ τ.2 1 p = 0) := fun p hp => not_congr (hc.pl0 hp).2.2.2.symm
  have hnn : ∀ p, p < 8 * w → ¬ σ.2 5 p = -1 → xs_nb w σ p = xm_nb w τ p := by
    intro p hp ho
    unfold xs_nb xm_nb
    rw [hc.key0 hp ho]
  have P1 := xr_path (w := w) (sb := xm_sb key) (nb := xs_nb w σ) (nb' := xm_nb w τ) (oc := fun p => ¬ σ.2 5 p = -1) (oc' := fun p => ¬ τ.2 1 p = 0) hw0 hs hoc (fun p hp ho => ⟨hnn p hp ho, hnb p hp⟩)
  have P2 := xr_path (w := w) (sb := xm_sb key) (nb := xm_nb w τ) (nb' := xs_nb w σ) (oc := fun p => ¬ τ.2 1 p = 0) (oc' := fun p => ¬ σ.2 5 p = -1) hw0 hs (fun p hp => (hoc p hp).symm) (fun p hp ho => ⟨(hnn p hp ((hoc p hp).mpr ho)).symm, by rw [← hnn p hp ((hoc p hp).mpr ho)]; exact hnb p hp⟩)
  have hD0 : ∀ p, p < 8 * w → xs_fill (8 * w) (σ.2 17) (-1) (8 * w) p = -1 := fun p hp => if_pos hp
  obtain ⟨m2, Q2, B2, D2, q2, dp2, c2, b1, b2, b3⟩ := xb_begin (w := w) (sb := xm_sb key) (nb := xs_nb w σ) (oc := fun p => ¬ σ.2 5 p = -1) (f := -1) (Q := σ.2 15) (Bf := σ.2 16) (by omega) hs0 hs1 hD0
  have es0 : xm_sb key 0 = (xs_b1 key).toNatClampNeg := by unfold xm_sb; rw [if_pos rfl]
  have es1 : xm_sb key 1 = (xs_b2 key).toNatClampNeg := by unfold xm_sb; rw [if_neg (by decide)]
  rw [es0, es1, nI_0] at b1
  have hbf : xs_bfs0 w σ key = xs_bfs w σ (8 * w) 0 (Q2, B2, D2, m2) := by unfold xs_bfs0; rw [b1]
  have hsk : xm_sk w τ = xe_sd w (xm_sb key) (xm_nb w τ) (τ.2 1) 5 0 (τ.2 9) := by unfold xm_sk; rw [ek]
  obtain ⟨E1, E2⟩ := xe_sd_is (w := w) (sb := xm_sb key) (nb := xm_nb w τ) (hd := τ.2 1) hw0 (by omega) hs (fun p hp ho => by rw [← hnn p hp ((hoc p hp).mpr ho)]; exact hnb p hp) 5 0 (τ.2 9) (by omega) (fun k x hk => by omega)
  rw [← hsk] at E1 E2
  rcases xs_bfs_is (sb := xm_sb key) hw0 (by omega) hnb (8 * w) 0 (Q2, B2, D2, m2) q2 dp2 c2 (by omega) b2 b3 with ⟨g0, m, Q, Bf, Dp, q, dep, cd, I, S⟩ | ⟨i, m, Q, Bf, Dp, q, dep, cd, g0, him, hfree, I, S⟩
  · left
    refine ⟨by rw [hbf]; exact g0, ?_⟩
    cases he : (xm_sk w τ).1 with
    | none => rfl
    | some e =>
      obtain ⟨e4, z, z1, ⟨z2, z3⟩, -⟩ := E1 e he
      obtain ⟨p1, p2, p3⟩ := P2 e z z1 z2
      have := xb_none hw0 I S e z e4 z1 p2
      rw [← p1] at this
      exact absurd z3 ((hoc _ p3).mp this)
  · right
    obtain ⟨-, e1, e2, e3, e4, e5, e6, e7⟩ := I.1 i him
    have hfirst := xb_first hw0 I S him
    obtain ⟨p1, p2, p3⟩ := P1 (dep (q i)) (cd (q i)) e6 e5
    have hL : xe_L w (xm_sb key) (xm_nb w τ) (τ.2 1) (dep (q i)) (cd (q i)) := ⟨p2, by
      rw [← p1, ← e4]
      exact (hc.pl0 e1).2.2.2.mpr hfree⟩
    cases he : (xm_sk w τ).1 with
    | none => exact absurd hL (E2 he _ _ e3 e6)
    | some e =>
      obtain ⟨e9, z, z1, z2, z3, z4⟩ := E1 e he
      have heq : dep (q i) = e ∧ cd (q i) = z := by
        rcases Nat.lt_trichotomy (dep (q i)) e with h | h | h
        · exact absurd hL (z3 _ _ (Or.inl h) e6)
        · rcases Nat.lt_trichotomy (cd (q i)) z with h' | h' | h'
          · exact absurd hL (z3 _ _ (Or.inr ⟨h, h'⟩) e6)
          · exact ⟨h, h'⟩
          · obtain ⟨a1, a2, a3⟩ := P2 e z z1 z2.1
            have := hfirst e z (Or.inr ⟨h.symm, h'⟩) z1 a2
            rw [← a1] at this
            exact absurd z2.2 ((hoc _ a3).mp this)
        · obtain ⟨a1, a2, a3⟩ := P2 e z z1 z2.1
          have := hfirst e z (Or.inl h) z1 a2
          rw [← a1] at this
          exact absurd z2.2 ((hoc _ a3).mp this)
      obtain ⟨h1, h2⟩ := heq
      subst h1 h2
      have hpt : ∀ j, j ≤ dep (q i) → xb_pt w (xm_sb key) (xs_nb w σ) (dep (q i)) (cd (q i)) j = xb_pt w (xm_sb key) (xm_nb w τ) (dep (q i)) (cd (q i)) j := fun j hj => (P1 j _ (xb_pre_lt hw0 hj e6) (xb_ok_pre _ _ _ hj e5)).1
      have hkeep := fun f => xb_keep_is (by omega) I (dep (q i)) i f him rfl
      refine ⟨dep (q i), q i, xb_pt w (xm_sb key) (xs_nb w σ) (dep (q i)) (cd (q i)), Q, Bf, Dp, m, e3, by rw [hbf]; exact g0, rfl, e1, e2, fun f j hj => (hkeep f).1 j hj, fun j hj => ?_, fun j hj => ?_, fun a b hab hb2 heq2 => ?_⟩
      · rw [hpt j hj]; exact z4 j hj
      · exact (xe_okj _ _).mp e5 j hj
      · obtain ⟨ia, a1, a2, a3, -⟩ := (hkeep Q).2.2 a (by omega)
        obtain ⟨ib, b1', b2', b3', -⟩ := (hkeep Q).2.2 b hb2
        have : dep (q ia) = dep (q ib) := by rw [a2, b2', heq2]
        omega
theorem xr_free {ha : xr_at n w σ τ 4} : ∃ i, i < n ∧ σ.2 11 i = 0 := by
  rcases ha with k | ⟨k, -⟩ | ⟨k, -⟩ | ⟨-, g⟩ | ⟨k, -⟩ | ⟨k, -⟩
  · exact absurd k (by decide)
  · rcases k with k | k <;> exact absurd k (by decide)
  · exact absurd k (by decide)
  · exact g
  · rcases k with k | k <;> exact absurd k (by decide)
  · exact absurd k (by decide)
theorem xr_core.pack (hc : xr_core n w σ τ) (a : (Nat → Int32) × (Nat → Int32) × (Nat → Int32) × Nat) : xr_core n w (xs_pack σ a) τ := (((hc.oA (by decide)).oA (by decide)).oA (by decide)).oI (by decide)
theorem xr_kc.pack (a : (Nat → Int32) × (Nat → Int32) × (Nat → Int32) × Nat) : xr_kc σ (xs_pack σ a) := xr_kc.I xr_kc.rf (by omega)
theorem xr_seek (h : xr_R n w σ τ) (h9 : σ.1 9 = 0) (h16 : σ.1 16 = 4) : xr_R n w (xs_seekP w σ) (xm_seek w τ) := by
  obtain ⟨hc, hwr, hr⟩ := h
  obtain ⟨-, hk, ha⟩ := hwr.1 h9
  have hb := hc.b31
  rw [h16] at ha
  have hfree := xr_free (ha := ha)
  have ek : τ.1 6 = σ.1 12 := (hc.sc 12 6 (by decide)).symm
  rcases xr_both hc (σ.1 12) ek with ⟨n1, n2⟩ | ⟨d, p, pt, Q, Bf, Dp, m, d4, f1, f2, f3, f4, f5, f6, f7, f8⟩
  · have e1 : xs_seekB w σ (σ.1 12) = 0 := by unfold xs_seekB; rw [if_pos n1]
    have e2 : xs_seek w σ (σ.1 12) = xs_pack σ (xs_bfs0 w σ (σ.1 12)).2 := by unfold xs_seek xs_res; rw [n1]
    have e3 : xm_seek w τ = xm_fin (xs_sA τ 9 (xm_sk w τ).2) 6 := by unfold xm_seek xm_res; rw [n2]
    unfold xs_seekP
    rw [if_pos e1, e2, e3]
    exact xr_fin ((hc.pack _).oB (by decide)) (hr.cg (xr_kc.pack _) (xr_km.sA xr_km.rf (by omega))) (by decide)
  · have e1 : xs_seekB w σ (σ.1 12) = 1 := by unfold xs_seekB; rw [f1, if_neg (by simp)]
    have ecl : (nI p).toNatClampNeg = p := nI_clamp (by omega)
    have edl : (nI d).toNatClampNeg = d := nI_clamp (by omega)
    have e2 : xs_seek w σ (σ.1 12) = xf_I (xs_sA (xs_pack σ (Q, Bf, Dp, m)) 14 (xb_keep Bf d (nI p) (σ.2 14))) 19 (nI d) := by
      unfold xs_seek xs_res
      rw [f1]
      show xs_kp (xs_pack σ (Q, Bf, Dp, m)) (nI p) = _
      unfold xs_kp
      rw [xs_pk17, xs_pk16, ecl]
      dsimp only
      rw [f4, edl]
      rfl
    have e3 : xm_seek w τ = xf_I (xf_I (xf_I (xs_sA τ 9 (xm_sk w τ).2) 11 (nI d)) 12 (nI d - 1)) 3 (if nI d ≤ 0 then 8 else 6) := by unfold xm_seek xm_res; rw [f2]
    have core : xr_core n w (xf_I (xf_I (xf_I (xs_sA (xs_pack σ (Q, Bf, Dp, m)) 14 (xb_keep Bf d (nI p) (σ.2 14))) 19 (nI d)) 18 (nI d)) 18 (nI d - 1)) (xf_I (xf_I (xs_sA τ 9 (xm_sk w τ).2) 11 (nI d)) 12 (nI d - 1)) :=
      ((((((hc.pack _).oA (by decide)).oI (by decide)).oI (by decide)).oI (by decide)).oB (by decide)).oJ (by decide) |>.oJ (by decide)
    have hrr : xr_rds n (xf_I (xf_I (xf_I (xs_sA (xs_pack σ (Q, Bf, Dp, m)) 14 (xb_keep Bf d (nI p) (σ.2 14))) 19 (nI d)) 18 (nI d)) 18 (nI d - 1)) (xf_I (xf_I (xs_sA τ 9 (xm_sk w τ).2) 11 (nI d)) 12 (nI d - 1)) :=
      hr.cg (xr_kc.I (xr_kc.I (xr_kc.I (xr_kc.sA (xr_kc.pack _)) (by omega)) (by omega)) (by omega)) (xr_km.sA xr_km.rf (by omega))
    unfold xs_seekP
    rw [e1, if_neg (by decide), e2, e3]
    show xr_R n w (xs_chM (xf_I (xf_I (xs_sA (xs_pack σ (Q, Bf, Dp, m)) 14 (xb_keep Bf d (nI p) (σ.2 14))) 19 (nI d)) 18 (nI d))) _
    unfold xs_chM
    show xr_R n w (xf_I (xf_I (xf_I (xf_I (xs_sA (xs_pack σ (Q, Bf, Dp, m)) 14 (xb_keep Bf d (nI p) (σ.2 14))) 19 (nI d)) 18 (nI d)) 18 (nI d - 1)) 16 (if nI d - 1 < 0 then 7 else 5)) _
    cases d with
    | zero =>
      rw [if_pos (by decide), if_pos (by decide)]
      refine xr_goto core hrr h9 hk (by decide) (Or.inr (Or.inr (Or.inr (Or.inr (Or.inr ⟨rfl, hfree, pt 0, (f6 0 (by omega)).2, f5 (σ.2 14) 0 (by omega), (f6 0 (by omega)).1⟩)))))
    | succ d =>
      rw [if_neg (by rw [nI_pred]; exact nI_pos (by omega)), if_neg (nI_nle (by omega) (by omega))]
      refine xr_goto core hrr h9 hk (by decide) (Or.inr (Or.inr (Or.inr (Or.inr (Or.inl ⟨Or.inl rfl, hfree, d, pt, by omega, nI_pred d, nI_pred d, fun j hj => ⟨f5 _ j hj, (f6 j hj).1, (f6 j hj).2⟩, fun j hj => f7 j (by omega), f8⟩)))))
end XRQ
