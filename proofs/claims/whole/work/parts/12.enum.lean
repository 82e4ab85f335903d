/-! The reference's search, without the machine: all numbers in their order. -/
section XEN
variable (w : Nat) (sb nb : Nat → Nat) (hd : Nat → Int32)
/-- 'leads' from its q-th place on, r places left: whether it leads, and the path array -/
def xe_ld (d : Nat) : Nat → Nat → Nat → Nat → (Nat → Int32) → Bool × (Nat → Int32)
  | 0, _, _, _, pt => (true, pt)
  | r + 1, q, rest, size, pt =>
    if (hd (if q = 0 then w * sb (rest / size / w) + rest / size % w else w * nb (pt (q - 1)).toNatClampNeg + rest / size) = 0 ↔ q = d)
    then xe_ld d r (q + 1) (rest % size) (size / w) (upd pt q (nI (if q = 0 then w * sb (rest / size / w) + rest / size % w else w * nb (pt (q - 1)).toNatClampNeg + rest / size)))
    else (false, upd pt q (nI (if q = 0 then w * sb (rest / size / w) + rest / size % w else w * nb (pt (q - 1)).toNatClampNeg + rest / size)))
def xe_sn (d : Nat) : Nat → Nat → (Nat → Int32) → Bool × (Nat → Int32)
  | 0, _, pt => (false, pt)
  | r + 1, x, pt => if (xe_ld w sb nb hd d (d + 1) 0 x (w ^ d) pt).1 = true then (true, (xe_ld w sb nb hd d (d + 1) 0 x (w ^ d) pt).2) else xe_sn d r (x + 1) (xe_ld w sb nb hd d (d + 1) 0 x (w ^ d) pt).2
def xe_sd : Nat → Nat → (Nat → Int32) → Option Nat × (Nat → Int32)
  | 0, _, pt => (none, pt)
  | r + 1, d, pt => if (xe_sn w sb nb hd d (2 * w * w ^ d) 0 pt).1 = true then (some d, (xe_sn w sb nb hd d (2 * w * w ^ d) 0 pt).2) else xe_sd r (d + 1) (xe_sn w sb nb hd d (2 * w * w ^ d) 0 pt).2
/-- what leads -/
def xe_L (d x : Nat) : Prop := xb_ok w sb nb (fun p => ¬ hd p = 0) d x ∧ hd (xb_at w sb nb d x) = 0
variable {w sb nb hd}
theorem xe_okj {oc : Nat → Prop} : ∀ (d x : Nat), xb_ok w sb nb oc d x ↔ ∀ j, j < d → oc (xb_pt w sb nb d x j)
  | 0, x => by simp [xb_ok]
  | d + 1, x => by
    rw [xb_ok, xe_okj d (x / w)]
    have hpt : ∀ j, j ≤ d → xb_pt w sb nb (d + 1) x j = xb_pt w sb nb d (x / w) j := by
      intro j hj
      rw [xb_pt, xb_pt, Nat.div_div_eq_div_mul, show d + 1 - j = (d - j) + 1 by omega, Nat.pow_succ, Nat.mul_comm]
    have hd0 : xb_pt w sb nb (d + 1) x d = xb_at w sb nb d (x / w) := by
      rw [xb_pt, show d + 1 - d = 1 by omega, Nat.pow_one]
    constructor
    · rintro ⟨h1, h2⟩ j hj
      by_cases hjd : j = d
      · subst hjd
        rw [hd0]
        exact h2
      · rw [hpt j (by omega)]
        exact h1 j (by omega)
    · intro h
      refine ⟨fun j hj => ?_, ?_⟩
      · have := h j (by omega)
        rw [hpt j (by omega)] at this
        exact this
      · have := h d (by omega)
        rw [hd0] at this
        exact this
theorem xe_ld_is (hw0 : 0 < w) (hw : 8 * w < 2 ^ 31) (hs : ∀ y, y < 2 → sb y < 8) (hn : ∀ p, p < 8 * w → ¬ hd p = 0 → nb p < 8) {d x : Nat} (hx : x < 2 * w * w ^ d) :
    ∀ (r q rest size : Nat) (pt : Nat → Int32), r + q = d + 1 → (q = 0 → rest = x ∧ size = w ^ d) → (∀ e, q = e + 1 → e < d → rest = x % w ^ (d - e) ∧ size = w ^ (d - e) / w) →
      (∀ j, j < q → pt j = nI (xb_pt w sb nb d x j) ∧ xb_pt w sb nb d x j < 8 * w ∧ (hd (xb_pt w sb nb d x j) = 0 ↔ j = d)) →
      ((xe_ld w sb nb hd d r q rest size pt).1 = true ↔ ∀ j, q ≤ j → j ≤ d → (hd (xb_pt w sb nb d x j) = 0 ↔ j = d)) ∧ ((xe_ld w sb nb hd d r q rest size pt).1 = true → ∀ j, j ≤ d → (xe_ld w sb nb hd d r q rest size pt).2 j = nI (xb_pt w sb nb d x j) ∧ xb_pt w sb nb d x j < 8 * w) := by
  intro r
  induction r with
  | zero =>
    intro q rest size pt hr h0 h1 hp
    rw [xe_ld]
    exact ⟨⟨fun _ j hj1 hj2 => by omega, fun _ => rfl⟩, fun _ j hj => ⟨(hp j (by omega)).1, (hp j (by omega)).2.1⟩⟩
  | succ r ih =>
    intro q rest size pt hr h0 h1 hp
    have hq : q ≤ d := by omega
    -- the place that is computed is the path's q-th
    have key : (if q = 0 then w * sb (rest / size / w) + rest / size % w else w * nb (pt (q - 1)).toNatClampNeg + rest / size) = xb_pt w sb nb d x q ∧ xb_pt w sb nb d x q < 8 * w ∧ rest % size = x % w ^ (d - q) ∧ size / w = w ^ (d - q) / w := by
      by_cases hq0 : q = 0
      · subst hq0
        obtain ⟨e1, e2⟩ := h0 rfl
        subst e1 e2
        rw [if_pos rfl, xb_pt, xb_at, Nat.sub_zero]
        refine ⟨rfl, ?_, rfl, rfl⟩
        have hdg : rest / w ^ d / w < 2 := by
          rw [Nat.div_lt_iff_lt_mul hw0, Nat.div_lt_iff_lt_mul (Nat.pow_pos hw0)]
          exact hx
        have h8 := hs _ hdg
        have hm := Nat.mod_lt (rest / w ^ d) hw0
        have : w * sb (rest / w ^ d / w) ≤ w * 7 := Nat.mul_le_mul_left _ (by omega)
        omega
      · obtain ⟨e, rfl⟩ : ∃ e, q = e + 1 := ⟨q - 1, by omega⟩
        obtain ⟨e1, e2⟩ := h1 e rfl (by omega)
        obtain ⟨p1, p2, p3⟩ := hp e (by omega)
        have hcl : (pt e).toNatClampNeg = xb_pt w sb nb d x e := by rw [p1]; exact nI_clamp (by omega)
        have hpw : w ^ (d - e) = w ^ (d - (e + 1)) * w := by rw [← Nat.pow_succ]; congr 1; omega
        have hsz : size = w ^ (d - (e + 1)) := by rw [e2, hpw, Nat.mul_div_cancel _ hw0]
        have hdig : rest / size = x / w ^ (d - (e + 1)) % w := by
          rw [e1, hsz, hpw, Nat.mod_mul_right_div_self]
        have hne : ¬ hd (xb_pt w sb nb d x e) = 0 := fun h => by have := p3.mp h; omega
        have hnb := hn _ p2 hne
        have hpt : xb_pt w sb nb d x (e + 1) = w * nb (xb_pt w sb nb d x e) + x / w ^ (d - (e + 1)) % w := by
          rw [xb_pt, xb_at, xb_pt, Nat.div_div_eq_div_mul, ← hpw]
        rw [if_neg (by omega), show e + 1 - 1 = e from rfl, hcl, hdig, hpt]
        refine ⟨rfl, ?_, ?_, ?_⟩
        · have hm := Nat.mod_lt (x / w ^ (d - (e + 1))) hw0
          have : w * nb (xb_pt w sb nb d x e) ≤ w * 7 := Nat.mul_le_mul_left _ (by omega)
          omega
        · rw [e1, hsz, hpw, Nat.mod_mul_right_mod]
        · rw [hsz]
    obtain ⟨k1, k2, k3, k4⟩ := key
    rw [xe_ld, k1]
    by_cases hc : (hd (xb_pt w sb nb d x q) = 0 ↔ q = d)
    · rw [if_pos hc]
      obtain ⟨g1, g2⟩ := ih (q + 1) (rest % size) (size / w) (upd pt q (nI (xb_pt w sb nb d x q))) (by omega) (fun h => by omega) (fun e he hed => by
          have : e = q := by omega
          subst this
          exact ⟨k3, k4⟩) (fun j hj => by
          by_cases hjq : j = q
          · subst hjq
            exact ⟨pk_us, k2, hc⟩
          · rw [pk_un hjq]
            exact hp j (by omega))
      refine ⟨g1.trans ⟨fun h j hj1 hj2 => ?_, fun h j hj1 hj2 => h j (by omega) hj2⟩, g2⟩
      by_cases hjq : j = q
      · subst hjq
        exact hc
      · exact h j (by omega) hj2
    · rw [if_neg hc]
      refine ⟨⟨fun h => by simp at h, fun h => absurd (h q (Nat.le_refl _) hq) hc⟩, fun h => by simp at h⟩
theorem xe_leads (hw0 : 0 < w) (hw : 8 * w < 2 ^ 31) (hs : ∀ y, y < 2 → sb y < 8) (hn : ∀ p, p < 8 * w → ¬ hd p = 0 → nb p < 8) {d x : Nat} (hx : x < 2 * w * w ^ d) (pt : Nat → Int32) :
    ((xe_ld w sb nb hd d (d + 1) 0 x (w ^ d) pt).1 = true ↔ xe_L w sb nb hd d x) ∧ ((xe_ld w sb nb hd d (d + 1) 0 x (w ^ d) pt).1 = true → ∀ j, j ≤ d → (xe_ld w sb nb hd d (d + 1) 0 x (w ^ d) pt).2 j = nI (xb_pt w sb nb d x j) ∧ xb_pt w sb nb d x j < 8 * w) := by
  obtain ⟨g1, g2⟩ := xe_ld_is hw0 hw hs hn hx (d + 1) 0 x (w ^ d) pt (by omega) (fun _ => ⟨rfl, rfl⟩) (fun e he => by omega) (fun j hj => by omega)
  refine ⟨g1.trans ?_, g2⟩
  have hdd : xb_pt w sb nb d x d = xb_at w sb nb d x := by rw [xb_pt, Nat.sub_self, Nat.pow_zero, Nat.div_one]
  rw [xe_L, xe_okj]
  constructor
  · intro h
    refine ⟨fun j hj h0 => ?_, ?_⟩
    · have := (h j (by omega) (by omega)).mp h0
      omega
    · rw [← hdd]
      exact (h d (by omega) (by omega)).mpr rfl
  · rintro ⟨h1, h2⟩ j _ hj
    by_cases hjd : j = d
    · subst hjd
      rw [hdd]
      exact ⟨fun _ => rfl, fun _ => h2⟩
    · exact ⟨fun h => absurd h (h1 j (by omega)), fun h => absurd h hjd⟩
theorem xe_sn_is (hw0 : 0 < w) (hw : 8 * w < 2 ^ 31) (hs : ∀ y, y < 2 → sb y < 8) (hn : ∀ p, p < 8 * w → ¬ hd p = 0 → nb p < 8) {d : Nat} :
    ∀ (r x : Nat) (pt : Nat → Int32), r + x = 2 * w * w ^ d → (∀ x', x' < x → ¬ xe_L w sb nb hd d x') →
      ((xe_sn w sb nb hd d r x pt).1 = true → ∃ z, z < 2 * w * w ^ d ∧ xe_L w sb nb hd d z ∧ (∀ x', x' < z → ¬ xe_L w sb nb hd d x') ∧ ∀ j, j ≤ d → (xe_sn w sb nb hd d r x pt).2 j = nI (xb_pt w sb nb d z j) ∧ xb_pt w sb nb d z j < 8 * w) ∧
      (¬ (xe_sn w sb nb hd d r x pt).1 = true → ∀ x', x' < 2 * w * w ^ d → ¬ xe_L w sb nb hd d x') := by
  intro r
  induction r with
  | zero =>
    intro x pt hr hx
    rw [xe_sn]
    exact ⟨fun h => by simp at h, fun _ x' hx' => hx x' (by omega)⟩
  | succ r ih =>
    intro x pt hr hx
    have hxl : x < 2 * w * w ^ d := by omega
    obtain ⟨g1, g2⟩ := xe_leads hw0 hw hs hn hxl pt
    rw [xe_sn]
    by_cases hc : (xe_ld w sb nb hd d (d + 1) 0 x (w ^ d) pt).1 = true
    · rw [if_pos hc]
      exact ⟨fun _ => ⟨x, hxl, g1.mp hc, hx, g2 hc⟩, fun h => absurd rfl h⟩
    · rw [if_neg hc]
      exact ih (x + 1) _ (by omega) (fun x' hx' => by
        by_cases he : x' = x
        · subst he
          exact fun h => hc (g1.mpr h)
        · exact hx x' (by omega))
theorem xe_sd_is (hw0 : 0 < w) (hw : 8 * w < 2 ^ 31) (hs : ∀ y, y < 2 → sb y < 8) (hn : ∀ p, p < 8 * w → ¬ hd p = 0 → nb p < 8) :
    ∀ (r d : Nat) (pt : Nat → Int32), r + d = 5 → (∀ k x, k < d → x < 2 * w * w ^ k → ¬ xe_L w sb nb hd k x) →
      (∀ e, (xe_sd w sb nb hd r d pt).1 = some e → e ≤ 4 ∧ ∃ z, z < 2 * w * w ^ e ∧ xe_L w sb nb hd e z ∧ (∀ k x, xb_lt (k, x) (e, z) → x < 2 * w * w ^ k → ¬ xe_L w sb nb hd k x) ∧ ∀ j, j ≤ e → (xe_sd w sb nb hd r d pt).2 j = nI (xb_pt w sb nb e z j) ∧ xb_pt w sb nb e z j < 8 * w) ∧
      ((xe_sd w sb nb hd r d pt).1 = none → ∀ k x, k ≤ 4 → x < 2 * w * w ^ k → ¬ xe_L w sb nb hd k x) := by
  intro r
  induction r with
  | zero =>
    intro d pt hr hd'
    rw [xe_sd]
    exact ⟨fun e h => by simp at h, fun _ k x hk hx => hd' k x (by omega) hx⟩
  | succ r ih =>
    intro d pt hr hd'
    obtain ⟨g1, g2⟩ := xe_sn_is hw0 hw hs hn (d := d) (2 * w * w ^ d) 0 pt (by omega) (fun x' hx' => by omega)
    rw [xe_sd]
    by_cases hc : (xe_sn w sb nb hd d (2 * w * w ^ d) 0 pt).1 = true
    · rw [if_pos hc]
      refine ⟨fun e he => ?_, fun h => by simp at h⟩
      have : e = d := by simpa using he.symm
      subst this
      obtain ⟨z, z1, z2, z3, z4⟩ := g1 hc
      refine ⟨by omega, z, z1, z2, fun k x hlt hx => ?_, z4⟩
      rcases hlt with h | ⟨h, h'⟩
      · exact hd' k x h hx
      · dsimp only at h h'
        subst h
        exact z3 x h'
    · rw [if_neg hc]
      exact ih (d + 1) _ (by omega) (fun k x hk hx => by
        by_cases he : k = d
        · subst he
          exact g2 hc x hx
        · exact hd' k x (by omega) hx)
end XEN
