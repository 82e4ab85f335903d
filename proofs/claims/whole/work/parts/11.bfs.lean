/-! The search for a path, without the machine: codes of paths, the invariant of the breadth first search. -/
def xb_lt (a b : Nat × Nat) : Prop := a.1 < b.1 ∨ (a.1 = b.1 ∧ a.2 < b.2)
def xb_le (a b : Nat × Nat) : Prop := a.1 < b.1 ∨ (a.1 = b.1 ∧ a.2 ≤ b.2)
/-- the last place of the path of d moves with code x -/
def xb_at (w : Nat) (sb nb : Nat → Nat) : Nat → Nat → Nat
  | 0, x => w * sb (x / w) + x % w
  | d + 1, x => w * nb (xb_at w sb nb d (x / w)) + x % w
/-- all places of that path but the last are occupied -/
def xb_ok (w : Nat) (sb nb : Nat → Nat) (oc : Nat → Prop) : Nat → Nat → Prop
  | 0, _ => True
  | d + 1, x => xb_ok w sb nb oc d (x / w) ∧ oc (xb_at w sb nb d (x / w))
def xb_up (f : Nat → Nat) (k v : Nat) : Nat → Nat := fun j => if j = k then v else f j
theorem xb_up_s {f : Nat → Nat} {k v : Nat} : xb_up f k v k = v := by simp [xb_up]
theorem xb_up_n {f : Nat → Nat} {k v j : Nat} (h : j ≠ k) : xb_up f k v j = f j := by simp [xb_up, h]
/-- how many of the first N are not -1 -/
def xb_cnt (f : Nat → Int32) : Nat → Nat
  | 0 => 0
  | n + 1 => xb_cnt f n + (if f n = -1 then 0 else 1)
theorem xb_cnt_le (f : Nat → Int32) : ∀ n, xb_cnt f n ≤ n
  | 0 => Nat.le_refl _
  | n + 1 => by
    have := xb_cnt_le f n
    rw [xb_cnt]
    split <;> omega
theorem xb_cnt_lt {f : Nat → Int32} : ∀ {n p : Nat}, p < n → f p = -1 → xb_cnt f n < n
  | n + 1, p, hp, hf => by
    have h1 := xb_cnt_le f n
    rw [xb_cnt]
    by_cases hpn : p = n
    · subst hpn
      rw [if_pos hf]
      omega
    · have h2 := xb_cnt_lt (f := f) (n := n) (p := p) (by omega) hf
      split <;> omega
theorem xb_cnt_out {f : Nat → Int32} {p : Nat} {v : Int32} : ∀ {n : Nat}, n ≤ p → xb_cnt (upd f p v) n = xb_cnt f n
  | 0, _ => rfl
  | n + 1, h => by
    rw [xb_cnt, xb_cnt, xb_cnt_out (n := n) (by omega), pk_un (by omega)]
theorem xb_cnt_set {f : Nat → Int32} {p : Nat} {v : Int32} (hv : v ≠ -1) : ∀ {n : Nat}, p < n → f p = -1 → xb_cnt (upd f p v) n = xb_cnt f n + 1
  | n + 1, hp, hf => by
    rw [xb_cnt, xb_cnt]
    by_cases hpn : p = n
    · subst hpn
      rw [xb_cnt_out (Nat.le_refl _), pk_us, if_neg hv, if_pos hf]
    · rw [xb_cnt_set hv (n := n) (by omega) hf, pk_un (Ne.symm hpn)]
      omega
theorem xb_nIm1 {n : Nat} (h : n < 2 ^ 31) : nI n ≠ -1 := by
  intro e
  have h1 := nI_toInt h
  rw [e] at h1
  have h2 : ((-1 : Int32)).toInt = -1 := by decide
  omega
theorem xb_inj {a b : Nat} (ha : a < 2 ^ 31) (hb : b < 2 ^ 31) (h : nI a = nI b) : a = b := (nI_eq ha hb).mp h
section XBI
variable (w : Nat) (sb nb : Nat → Nat) (oc : Nat → Prop)
/-- what is known of a place that has been met -/
def xb_ent (hp : Nat) (Bf Dp : Nat → Int32) (q dep cd : Nat → Nat) (p : Nat) : Prop :=
  p < 8 * w ∧ Dp p = nI (dep p) ∧ dep p ≤ 4 ∧ p = xb_at w sb nb (dep p) (cd p) ∧ xb_ok w sb nb oc (dep p) (cd p) ∧ cd p < 2 * w * w ^ dep p ∧
  ∀ d, dep p = d + 1 → ∃ i, i < hp ∧ q i = xb_at w sb nb d (cd p / w) ∧ dep (q i) = d ∧ cd (q i) = cd p / w ∧ Bf p = nI (q i)
def xb_inv (hp he m : Nat) (Q Bf Dp : Nat → Int32) (q dep cd : Nat → Nat) : Prop :=
  (∀ i, i < m → Q i = nI (q i) ∧ xb_ent w sb nb oc hp Bf Dp q dep cd (q i)) ∧
  (∀ p, p < 8 * w → Dp p = -1 ∨ ∃ i, i < m ∧ q i = p) ∧
  (∀ i j, i < j → j < m → xb_lt (dep (q i), cd (q i)) (dep (q j), cd (q j))) ∧
  (∀ i, i < he → oc (q i) ∧ (dep (q i) < 4 → ∀ s, s < w → ∃ j, j < m ∧ q j = w * nb (q i) + s ∧ xb_le (dep (q j), cd (q j)) (dep (q i) + 1, cd (q i) * w + s))) ∧
  hp ≤ m ∧ he ≤ m ∧ xb_cnt Dp (8 * w) = m
variable {w sb nb oc}
theorem xb_inv.room {hp he m : Nat} {Q Bf Dp : Nat → Int32} {q dep cd : Nat → Nat} (I : xb_inv w sb nb oc hp he m Q Bf Dp q dep cd) {p : Nat} (hp8 : p < 8 * w) (hd : Dp p = -1) : m < 8 * w := by
  have := xb_cnt_lt hp8 hd
  rw [I.2.2.2.2.2.2] at this
  exact this
theorem xb_inv.le {hp he m : Nat} {Q Bf Dp : Nat → Int32} {q dep cd : Nat → Nat} (I : xb_inv w sb nb oc hp he m Q Bf Dp q dep cd) : m ≤ 8 * w := by
  have := xb_cnt_le Dp (8 * w)
  rw [I.2.2.2.2.2.2] at this
  exact this
theorem xb_inv.more {hp hp' he m : Nat} {Q Bf Dp : Nat → Int32} {q dep cd : Nat → Nat} (I : xb_inv w sb nb oc hp he m Q Bf Dp q dep cd) (h : hp ≤ hp') (h' : hp' ≤ m) : xb_inv w sb nb oc hp' he m Q Bf Dp q dep cd := by
  refine ⟨fun i hi => ⟨(I.1 i hi).1, ?_⟩, I.2.1, I.2.2.1, I.2.2.2.1, h', I.2.2.2.2.2.1, I.2.2.2.2.2.2⟩
  obtain ⟨e1, e2, e3, e4, e5, e6, e7⟩ := (I.1 i hi).2
  refine ⟨e1, e2, e3, e4, e5, e6, fun d hd => ?_⟩
  obtain ⟨i', h1, h2⟩ := e7 d hd
  exact ⟨i', by omega, h2⟩
/-- one place more is met -/
theorem xb_visit {hp he m : Nat} {Q Bf Dp : Nat → Int32} {q dep cd : Nat → Nat} (hw : 8 * w < 2 ^ 31) (I : xb_inv w sb nb oc hp he m Q Bf Dp q dep cd) {p d x : Nat} {f : Int32} (hp8 : p < 8 * w) (hDp : Dp p = -1) (hd : d ≤ 4) (hpx : p = xb_at w sb nb d x) (hok : xb_ok w sb nb oc d x) (hx : x < 2 * w * w ^ d)
    (hpar : ∀ d', d = d' + 1 → ∃ i, i < hp ∧ q i = xb_at w sb nb d' (x / w) ∧ dep (q i) = d' ∧ cd (q i) = x / w ∧ f = nI (q i)) (hkey : ∀ i, i < m → xb_lt (dep (q i), cd (q i)) (d, x)) :
    xb_inv w sb nb oc hp he (m + 1) (upd Q m (nI p)) (upd Bf p f) (upd Dp p (nI d)) (xb_up q m p) (xb_up dep p d) (xb_up cd p x) := by
  have hne : ∀ i, i < m → q i ≠ p := by
    intro i hi e
    have h1 := (I.1 i hi).2.2.1
    rw [e, hDp] at h1
    have h2 := (I.1 i hi).2.2.2.1
    rw [e] at h2
    exact xb_nIm1 (by omega) h1.symm
  have hq : ∀ i, i < m → xb_up q m p i = q i := fun i hi => xb_up_n (by omega)
  have hdp : ∀ i, i < m → xb_up dep p d (q i) = dep (q i) := fun i hi => xb_up_n (hne i hi)
  have hcd : ∀ i, i < m → xb_up cd p x (q i) = cd (q i) := fun i hi => xb_up_n (hne i hi)
  obtain ⟨I1, I2, I3, I4, I5, I6, I7⟩ := I
  refine ⟨fun i hi => ?_, fun p' hp' => ?_, fun i j hij hj => ?_, fun i hi => ?_, by omega, by omega, ?_⟩
  · by_cases him : i = m
    · subst him
      rw [pk_us, xb_up_s]
      refine ⟨rfl, hp8, ?_, ?_, ?_, ?_, ?_, ?_⟩
      · rw [pk_us, xb_up_s]
      · rw [xb_up_s]; exact hd
      · rw [xb_up_s, xb_up_s]; exact hpx
      · rw [xb_up_s, xb_up_s]; exact hok
      · rw [xb_up_s, xb_up_s]; exact hx
      · intro d' hd'
        rw [xb_up_s] at hd'
        obtain ⟨i', a1, a2, a3, a4, a5⟩ := hpar d' hd'
        have hi' : i' < i := by omega
        refine ⟨i', a1, ?_, ?_, ?_, ?_⟩
        · rw [hq i' hi', xb_up_s]; exact a2
        · rw [hq i' hi', hdp i' hi']; exact a3
        · rw [hq i' hi', hcd i' hi', xb_up_s]; exact a4
        · rw [pk_us, hq i' hi']; exact a5
    · have hi' : i < m := by omega
      obtain ⟨a0, a1, a2, a3, a4, a5, a6, a7⟩ := I1 i hi'
      rw [pk_un him, hq i hi']
      refine ⟨a0, a1, ?_, ?_, ?_, ?_, ?_, ?_⟩
      · rw [pk_un (hne i hi'), hdp i hi']; exact a2
      · rw [hdp i hi']; exact a3
      · rw [hdp i hi', hcd i hi']; exact a4
      · rw [hdp i hi', hcd i hi']; exact a5
      · rw [hdp i hi', hcd i hi']; exact a6
      · intro d' hd'
        rw [hdp i hi'] at hd'
        obtain ⟨i', b1, b2, b3, b4, b5⟩ := a7 d' hd'
        have hi2 : i' < m := by omega
        refine ⟨i', b1, ?_, ?_, ?_, ?_⟩
        · rw [hq i' hi2, hcd i hi']; exact b2
        · rw [hq i' hi2, hdp i' hi2]; exact b3
        · rw [hq i' hi2, hcd i' hi2, hcd i hi']; exact b4
        · rw [pk_un (hne i hi'), hq i' hi2]; exact b5
  · by_cases hpp : p' = p
    · subst hpp
      exact Or.inr ⟨m, by omega, xb_up_s⟩
    · rw [pk_un hpp]
      rcases I2 p' hp' with h | ⟨i, h1, h2⟩
      · exact Or.inl h
      · exact Or.inr ⟨i, by omega, by rw [hq i h1]; exact h2⟩
  · by_cases hjm : j = m
    · subst hjm
      rw [hq i hij, xb_up_s, hdp i hij, hcd i hij, xb_up_s, xb_up_s]
      exact hkey i hij
    · have hj' : j < m := by omega
      have hi' : i < m := by omega
      rw [hq i hi', hq j hj', hdp i hi', hcd i hi', hdp j hj', hcd j hj']
      exact I3 i j hij hj'
  · have hi' : i < m := by omega
    rw [hq i hi', hdp i hi', hcd i hi']
    refine ⟨(I4 i hi).1, fun h4 s hs => ?_⟩
    obtain ⟨j, b1, b2, b3⟩ := (I4 i hi).2 h4 s hs
    exact ⟨j, by omega, by rw [hq j b1]; exact b2, by rw [hq j b1, hdp j b1, hcd j b1]; exact b3⟩
  · rw [xb_cnt_set (xb_nIm1 (by omega)) hp8 hDp, I7]
/-- what is new leaves what was there -/
def xb_ext (m m' : Nat) (q dep cd q' dep' cd' : Nat → Nat) : Prop := m ≤ m' ∧ ∀ i, i < m → q' i = q i ∧ dep' (q i) = dep (q i) ∧ cd' (q i) = cd (q i)
theorem xb_ext.rf {m : Nat} {q dep cd : Nat → Nat} : xb_ext m m q dep cd q dep cd := ⟨Nat.le_refl _, fun _ _ => ⟨rfl, rfl, rfl⟩⟩
theorem xb_ext.tr {m m' m'' : Nat} {q dep cd q' dep' cd' q'' dep'' cd'' : Nat → Nat} (h : xb_ext m m' q dep cd q' dep' cd') (h' : xb_ext m' m'' q' dep' cd' q'' dep'' cd'') : xb_ext m m'' q dep cd q'' dep'' cd'' := by
  refine ⟨Nat.le_trans h.1 h'.1, fun i hi => ?_⟩
  obtain ⟨a1, a2, a3⟩ := h.2 i hi
  obtain ⟨b1, b2, b3⟩ := h'.2 i (Nat.lt_of_lt_of_le hi h.1)
  rw [a1] at b1 b2 b3
  exact ⟨b1, b2.trans a2, b3.trans a3⟩
theorem xb_ext.one {hp he m : Nat} {Q Bf Dp : Nat → Int32} {q dep cd : Nat → Nat} (I : xb_inv w sb nb oc hp he m Q Bf Dp q dep cd) {p d x : Nat} (hDp : Dp p = -1) : xb_ext m (m + 1) q dep cd (xb_up q m p) (xb_up dep p d) (xb_up cd p x) := by
  have hne : ∀ i, i < m → q i ≠ p := by
    intro i hi e
    have h1 := (I.1 i hi).2.2.1
    rw [e, hDp] at h1
    have h2 := (I.1 i hi).2.2.2.1
    rw [e] at h2
    exact xb_nIm1 (by omega) h1.symm
  exact ⟨by omega, fun i hi => ⟨xb_up_n (by omega), xb_up_n (hne i hi), xb_up_n (hne i hi)⟩⟩
end XBI
/-- what 'enter' does to queue, before, depths, and how many are queued: r places from p on -/
def xb_enter (fr dp : Int32) : Nat → Nat → (Nat → Int32) × (Nat → Int32) × (Nat → Int32) × Nat → (Nat → Int32) × (Nat → Int32) × (Nat → Int32) × Nat
  | 0, _, a => a
  | r + 1, p, a => xb_enter fr dp r (p + 1) (if a.2.2.1 p = -1 then (upd a.1 a.2.2.2 (nI p), upd a.2.1 p fr, upd a.2.2.1 p dp, a.2.2.2 + 1) else a)
section XBE
variable {w : Nat} {sb nb : Nat → Nat} {oc : Nat → Prop}
theorem xb_mulD {w y s : Nat} (hs : s < w) : (y * w + s) / w = y ∧ (y * w + s) % w = s := by
  have hw : 0 < w := by omega
  constructor
  · rw [Nat.add_comm, Nat.add_mul_div_right _ _ hw, Nat.div_eq_of_lt hs, Nat.zero_add]
  · rw [Nat.add_comm, Nat.add_mul_mod_self_right, Nat.mod_eq_of_lt hs]
theorem xb_enter_inv (hw : 8 * w < 2 ^ 31) {b d y hp he : Nat} {f : Int32} (hb : b < 8) (hd : d ≤ 4) (hy : (y + 1) * w ≤ 2 * w * w ^ d) (hat : ∀ s, s < w → xb_at w sb nb d (y * w + s) = w * b + s) (hok : ∀ s, s < w → xb_ok w sb nb oc d (y * w + s)) :
    ∀ (r s0 m : Nat) (Q Bf Dp : Nat → Int32) (q dep cd : Nat → Nat), r + s0 = w → xb_inv w sb nb oc hp he m Q Bf Dp q dep cd →
      (∀ d', d = d' + 1 → ∃ i, i < hp ∧ q i = xb_at w sb nb d' y ∧ dep (q i) = d' ∧ cd (q i) = y ∧ f = nI (q i)) → (∀ i, i < m → xb_lt (dep (q i), cd (q i)) (d, y * w + s0)) →
      ∃ (m' : Nat) (Q' Bf' Dp' : Nat → Int32) (q' dep' cd' : Nat → Nat), xb_enter f (nI d) r (w * b + s0) (Q, Bf, Dp, m) = (Q', Bf', Dp', m') ∧ xb_inv w sb nb oc hp he m' Q' Bf' Dp' q' dep' cd' ∧ xb_ext m m' q dep cd q' dep' cd' ∧
        (∀ s, s0 ≤ s → s < w → ∃ j, j < m' ∧ q' j = w * b + s ∧ xb_le (dep' (q' j), cd' (q' j)) (d, y * w + s)) ∧ (∀ i, i < m' → xb_lt (dep' (q' i), cd' (q' i)) (d, y * w + w)) := by
  intro r
  induction r with
  | zero =>
    intro s0 m Q Bf Dp q dep cd hr I hpar hkey
    have e0 : s0 = w := by omega
    subst e0
    exact ⟨m, Q, Bf, Dp, q, dep, cd, rfl, I, xb_ext.rf, fun s h1 h2 => by omega, hkey⟩
  | succ r ih =>
    intro s0 m Q Bf Dp q dep cd hr I hpar hkey
    have hs0 : s0 < w := by omega
    have hp8 : w * b + s0 < 8 * w := by
      have : w * b ≤ w * 7 := Nat.mul_le_mul_left _ (by omega)
      omega
    have hdm := xb_mulD (y := y) hs0
    by_cases hDp : Dp (w * b + s0) = -1
    · have hx : y * w + s0 < 2 * w * w ^ d := by
        rw [Nat.add_mul, Nat.one_mul] at hy
        omega
      have I' := xb_visit (f := f) hw I (p := w * b + s0) (d := d) (x := y * w + s0) hp8 hDp hd (hat s0 hs0).symm (hok s0 hs0) hx (fun d' hd' => by rw [hdm.1]; exact hpar d' hd') hkey
      have E' := xb_ext.one I (d := d) (x := y * w + s0) hDp
      obtain ⟨m', Q', Bf', Dp', q', dep', cd', g1, g2, g3, g4, g5⟩ := ih (s0 + 1) (m + 1) _ _ _ _ _ _ (by omega) I' (fun d' hd' => by
          obtain ⟨i, a1, a2, a3, a4, a5⟩ := hpar d' hd'
          have him : i < m := Nat.lt_of_lt_of_le a1 I.2.2.2.2.1
          obtain ⟨e1, e2, e3⟩ := E'.2 i him
          exact ⟨i, a1, by rw [e1]; exact a2, by rw [e1, e2]; exact a3, by rw [e1, e3]; exact a4, by rw [e1]; exact a5⟩)
        (fun i hi => by
          by_cases him : i = m
          · subst him
            rw [xb_up_s, xb_up_s, xb_up_s]
            exact Or.inr ⟨rfl, by omega⟩
          · obtain ⟨e1, e2, e3⟩ := E'.2 i (by omega)
            rw [e1, e2, e3]
            rcases hkey i (by omega) with h | ⟨h1, h2⟩
            · exact Or.inl h
            · exact Or.inr ⟨h1, by dsimp only at h2 ⊢; omega⟩)
      refine ⟨m', Q', Bf', Dp', q', dep', cd', ?_, g2, E'.tr g3, fun s h1 h2 => ?_, g5⟩
      · rw [xb_enter]
        dsimp only
        rw [if_pos hDp]
        exact g1
      · by_cases hs : s = s0
        · subst hs
          obtain ⟨e1, e2, e3⟩ := g3.2 m (by omega)
          rw [xb_up_s] at e1 e2 e3
          rw [xb_up_s] at e2 e3
          exact ⟨m, by have := g3.1; omega, e1, by rw [e1, e2, e3]; exact Or.inr ⟨rfl, Nat.le_refl _⟩⟩
        · exact g4 s (by omega) h2
    · obtain ⟨m', Q', Bf', Dp', q', dep', cd', g1, g2, g3, g4, g5⟩ := ih (s0 + 1) m Q Bf Dp q dep cd (by omega) I hpar (fun i hi => by
          rcases hkey i hi with h | ⟨h1, h2⟩
          · exact Or.inl h
          · exact Or.inr ⟨h1, by dsimp only at h2 ⊢; omega⟩)
      refine ⟨m', Q', Bf', Dp', q', dep', cd', ?_, g2, g3, fun s h1 h2 => ?_, g5⟩
      · rw [xb_enter]
        dsimp only
        rw [if_neg hDp]
        exact g1
      · by_cases hs : s = s0
        · subst hs
          rcases I.2.1 _ hp8 with h | ⟨i, h3, h4⟩
          · exact absurd h hDp
          · obtain ⟨e1, e2, e3⟩ := g3.2 i h3
            refine ⟨i, by have := g3.1; omega, by rw [e1]; exact h4, ?_⟩
            rw [e1, e2, e3]
            rcases hkey i h3 with h | ⟨h5, h6⟩
            · exact Or.inl h
            · exact Or.inr ⟨h5, by dsimp only at h6 ⊢; omega⟩
        · exact g4 s (by omega) h2
end XBE
section XBL
variable {w : Nat} {sb nb : Nat → Nat} {oc : Nat → Prop}
theorem xb_cnt_0 {f : Nat → Int32} : ∀ {n : Nat}, (∀ p, p < n → f p = -1) → xb_cnt f n = 0
  | 0, _ => rfl
  | n + 1, h => by
    rw [xb_cnt, xb_cnt_0 (fun p hp => h p (by omega)), if_pos (h n (by omega))]
theorem xb_inv_0 {Q Bf Dp : Nat → Int32} {q dep cd : Nat → Nat} (h : ∀ p, p < 8 * w → Dp p = -1) : xb_inv w sb nb oc 0 0 0 Q Bf Dp q dep cd :=
  ⟨fun i hi => by omega, fun p hp => Or.inl (h p hp), fun i j h1 h2 => by omega, fun i hi => by omega, Nat.le_refl _, Nat.le_refl _, xb_cnt_0 h⟩
/-- the start: both buckets of the key are entered -/
def xb_sta (w : Nat) (sb nb : Nat → Nat) (m : Nat) (q dep cd : Nat → Nat) : Prop := ∀ x, x < 2 * w → ∃ j, j < m ∧ q j = xb_at w sb nb 0 x ∧ xb_le (dep (q j), cd (q j)) (0, x)
theorem xb_sta.ext {m m' : Nat} {q dep cd q' dep' cd' : Nat → Nat} (h : xb_sta w sb nb m q dep cd) (e : xb_ext m m' q dep cd q' dep' cd') : xb_sta w sb nb m' q' dep' cd' := by
  intro x hx
  obtain ⟨j, h1, h2, h3⟩ := h x hx
  obtain ⟨e1, e2, e3⟩ := e.2 j h1
  exact ⟨j, by have := e.1; omega, by rw [e1]; exact h2, by rw [e1, e2, e3]; exact h3⟩
theorem xb_begin (hw : 8 * w < 2 ^ 31) (h0 : sb 0 < 8) (h1 : sb 1 < 8) {Q Bf Dp : Nat → Int32} {f : Int32} (hD : ∀ p, p < 8 * w → Dp p = -1) :
    ∃ (m : Nat) (Q' Bf' Dp' : Nat → Int32) (q dep cd : Nat → Nat), xb_enter f (nI 0) w (w * sb 1) (xb_enter f (nI 0) w (w * sb 0) (Q, Bf, Dp, 0)) = (Q', Bf', Dp', m) ∧ xb_inv w sb nb oc 0 0 m Q' Bf' Dp' q dep cd ∧ xb_sta w sb nb m q dep cd := by
  have hat : ∀ y s, s < w → xb_at w sb nb 0 (y * w + s) = w * sb y + s := fun y s hs => by rw [xb_at, (xb_mulD hs).1, (xb_mulD hs).2]
  obtain ⟨m1, Q1, B1, D1, q1, dp1, c1, a1, a2, a3, a4, a5⟩ := xb_enter_inv (sb := sb) (nb := nb) (oc := oc) (f := f) hw (b := sb 0) (d := 0) (y := 0) (hp := 0) (he := 0) h0 (by omega) (by rw [Nat.pow_zero]; omega) (hat 0) (fun _ _ => trivial) w 0 0 Q Bf Dp (fun _ => 0) (fun _ => 0) (fun _ => 0) (by omega) (xb_inv_0 hD) (fun d' hd' => by omega) (fun i hi => by omega)
  obtain ⟨m2, Q2, B2, D2, q2, dp2, c2, b1, b2, b3, b4, b5⟩ := xb_enter_inv (sb := sb) (nb := nb) (oc := oc) (f := f) hw (b := sb 1) (d := 0) (y := 1) (hp := 0) (he := 0) h1 (by omega) (by rw [Nat.pow_zero]; omega) (hat 1) (fun _ _ => trivial) w 0 m1 Q1 B1 D1 q1 dp1 c1 (by omega) a2 (fun d' hd' => by omega) (fun i hi => by
    have := a5 i hi
    rw [Nat.zero_mul, Nat.zero_add] at this
    rw [Nat.one_mul, Nat.add_zero]
    exact this)
  refine ⟨m2, Q2, B2, D2, q2, dp2, c2, ?_, b2, fun x hx => ?_⟩
  · rw [Nat.add_zero] at a1 b1
    rw [a1, b1]
  · by_cases hxw : x < w
    · obtain ⟨j, g1, g2, g3⟩ := a4 x (by omega) hxw
      obtain ⟨e1, e2, e3⟩ := b3.2 j g1
      refine ⟨j, by have := b3.1; omega, ?_, ?_⟩
      · rw [e1, g2]
        have := hat 0 x hxw
        rw [Nat.zero_mul, Nat.zero_add] at this
        exact this.symm
      · rw [e1, e2, e3]
        rw [Nat.zero_mul, Nat.zero_add] at g3
        exact g3
    · obtain ⟨j, g1, g2, g3⟩ := b4 (x - w) (by omega) (by omega)
      have hx1 : 1 * w + (x - w) = x := by omega
      refine ⟨j, g1, ?_, ?_⟩
      · rw [g2]
        have := hat 1 (x - w) (by omega)
        rw [hx1] at this
        exact this.symm
      · rw [hx1] at g3
        exact g3
/-- a place at the head that is occupied: not expanded (the path is long enough) -/
theorem xb_skip {h m : Nat} {Q Bf Dp : Nat → Int32} {q dep cd : Nat → Nat} (I : xb_inv w sb nb oc h h m Q Bf Dp q dep cd) (hm : h < m) (ho : oc (q h)) (hd : ¬ dep (q h) < 4) : xb_inv w sb nb oc (h + 1) (h + 1) m Q Bf Dp q dep cd := by
  have I' := I.more (hp' := h + 1) (by omega) (by omega)
  refine ⟨I'.1, I'.2.1, I'.2.2.1, fun i hi => ?_, by omega, by omega, I'.2.2.2.2.2.2⟩
  by_cases hih : i = h
  · subst hih
    exact ⟨ho, fun h4 => absurd h4 hd⟩
  · exact I.2.2.2.1 i (by omega)
theorem xb_front {h m : Nat} {Q Bf Dp : Nat → Int32} {q dep cd : Nat → Nat} (hw0 : 0 < w) (I : xb_inv w sb nb oc h h m Q Bf Dp q dep cd) (hm : h < m) : ∀ i, i < m → xb_lt (dep (q i), cd (q i)) (dep (q h) + 1, cd (q h) * w) := by
  intro i hi
  by_cases hih : i = h
  · subst hih
    exact Or.inl (by dsimp only; omega)
  · by_cases hlt : i < h
    · rcases I.2.2.1 i h hlt hm with h1 | ⟨h1, h2⟩
      · exact Or.inl (by dsimp only at h1 ⊢; omega)
      · exact Or.inl (by dsimp only at h1 ⊢; omega)
    · by_cases hle : dep (q i) ≤ dep (q h)
      · exact Or.inl (by dsimp only; omega)
      · obtain ⟨d', hd'⟩ : ∃ d', dep (q i) = d' + 1 := ⟨dep (q i) - 1, by omega⟩
        obtain ⟨i', a1, a2, a3, a4, a5⟩ := (I.1 i hi).2.2.2.2.2.2.2 d' hd'
        rcases I.2.2.1 i' h a1 hm with h1 | ⟨h1, h2⟩
        · dsimp only at h1; omega
        · dsimp only at h1 h2
          refine Or.inr ⟨by dsimp only; omega, ?_⟩
          dsimp only
          rw [a4] at h2
          exact (Nat.div_lt_iff_lt_mul hw0).mp h2
/-- a place at the head that is occupied and expanded -/
theorem xb_expand {h m : Nat} {Q Bf Dp : Nat → Int32} {q dep cd : Nat → Nat} (hw0 : 0 < w) (hw : 8 * w < 2 ^ 31) (I : xb_inv w sb nb oc h h m Q Bf Dp q dep cd) (hm : h < m) (ho : oc (q h)) (hd : dep (q h) < 4) (hb : nb (q h) < 8) :
    ∃ (m' : Nat) (Q' Bf' Dp' : Nat → Int32) (q' dep' cd' : Nat → Nat), xb_enter (nI (q h)) (nI (dep (q h) + 1)) w (w * nb (q h)) (Q, Bf, Dp, m) = (Q', Bf', Dp', m') ∧ xb_inv w sb nb oc (h + 1) (h + 1) m' Q' Bf' Dp' q' dep' cd' ∧ xb_ext m m' q dep cd q' dep' cd' := by
  obtain ⟨e1, e2, e3, e4, e5, e6, e7⟩ := (I.1 h hm).2
  have I' := I.more (hp' := h + 1) (by omega) (by omega)
  have hat : ∀ s, s < w → xb_at w sb nb (dep (q h) + 1) (cd (q h) * w + s) = w * nb (q h) + s := fun s hs => by rw [xb_at, (xb_mulD hs).1, (xb_mulD hs).2, ← e4]
  have hok : ∀ s, s < w → xb_ok w sb nb oc (dep (q h) + 1) (cd (q h) * w + s) := fun s hs => by rw [xb_ok, (xb_mulD hs).1, ← e4]; exact ⟨e5, ho⟩
  have hy : (cd (q h) + 1) * w ≤ 2 * w * w ^ (dep (q h) + 1) := by
    rw [Nat.pow_succ, ← Nat.mul_assoc]
    exact Nat.mul_le_mul_right _ (by omega)
  obtain ⟨m', Q', Bf', Dp', q', dep', cd', g1, g2, g3, g4, g5⟩ := xb_enter_inv (f := nI (q h)) hw hb (by omega) hy hat hok w 0 m Q Bf Dp q dep cd (by omega) I' (fun d' hd' => by
      have hd2 : d' = dep (q h) := by omega
      subst hd2
      exact ⟨h, by omega, e4, rfl, rfl, rfl⟩) (fun i hi => by rw [Nat.add_zero]; exact xb_front hw0 I hm i hi)
  refine ⟨m', Q', Bf', Dp', q', dep', cd', by rw [Nat.add_zero] at g1; exact g1, ⟨g2.1, g2.2.1, g2.2.2.1, fun i hi => ?_, g2.2.2.2.2.1, by have := g3.1; omega, g2.2.2.2.2.2.2⟩, g3⟩
  by_cases hih : i = h
  · subst hih
    obtain ⟨f1, f2, f3⟩ := g3.2 i hm
    rw [f1, f2, f3]
    exact ⟨ho, fun _ s hs => g4 s (by omega) hs⟩
  · exact g2.2.2.2.1 i (by omega)
/-- all paths that come before are met, and their last places are behind the head -/
theorem xb_all {h m : Nat} {Q Bf Dp : Nat → Int32} {q dep cd : Nat → Nat} (hw0 : 0 < w) (I : xb_inv w sb nb oc h h m Q Bf Dp q dep cd) (S : xb_sta w sb nb m q dep cd) (Z : Nat → Nat → Prop) (z1 : ∀ k x, Z (k + 1) x → Z k (x / w)) (z2 : ∀ k x, Z k x → k ≤ 4) (z3 : ∀ k x i, Z k x → i < m → xb_le (dep (q i), cd (q i)) (k, x) → i < h) :
    ∀ k x, Z k x → xb_ok w sb nb oc k x → x < 2 * w * w ^ k → ∃ i, i < h ∧ q i = xb_at w sb nb k x ∧ xb_le (dep (q i), cd (q i)) (k, x) := by
  intro k
  induction k with
  | zero =>
    intro x hz _ hx
    obtain ⟨j, h1, h2, h3⟩ := S x (by simpa using hx)
    exact ⟨j, z3 0 x j hz h1 h3, h2, h3⟩
  | succ k ih =>
    intro x hz hok hx
    have hx' : x / w < 2 * w * w ^ k := by
      rw [Nat.pow_succ, ← Nat.mul_assoc] at hx
      exact (Nat.div_lt_iff_lt_mul hw0).mpr hx
    obtain ⟨i, h1, h2, h3⟩ := ih (x / w) (z1 k x hz) hok.1 hx'
    have hk4 := z2 _ _ hz
    have hd4 : dep (q i) < 4 := by
      rcases h3 with h | ⟨h, -⟩ <;> dsimp only at h <;> omega
    obtain ⟨j, g1, g2, g3⟩ := (I.2.2.2.1 i h1).2 hd4 (x % w) (Nat.mod_lt _ hw0)
    have hle : xb_le (dep (q j), cd (q j)) (k + 1, x) := by
      have hxe : x / w * w + x % w = x := by rw [Nat.mul_comm]; exact Nat.div_add_mod x w
      rcases h3 with h | ⟨h, h'⟩
      · dsimp only at h
        rcases g3 with g | ⟨g, g'⟩ <;> dsimp only at g
        · exact Or.inl (by dsimp only; omega)
        · exact Or.inl (by dsimp only; omega)
      · dsimp only at h h'
        have hm : cd (q i) * w ≤ x / w * w := Nat.mul_le_mul_right _ h'
        rcases g3 with g | ⟨g, g'⟩ <;> dsimp only at g
        · exact Or.inl (by dsimp only; omega)
        · dsimp only at g'
          exact Or.inr ⟨by dsimp only; omega, by dsimp only; omega⟩
    refine ⟨j, z3 _ _ _ hz g1 hle, ?_, hle⟩
    rw [g2, xb_at, ← h2]
/-- the first free place that comes up ends the first path -/
theorem xb_first {h m : Nat} {Q Bf Dp : Nat → Int32} {q dep cd : Nat → Nat} (hw0 : 0 < w) (I : xb_inv w sb nb oc h h m Q Bf Dp q dep cd) (S : xb_sta w sb nb m q dep cd) (hm : h < m) :
    ∀ k x, xb_lt (k, x) (dep (q h), cd (q h)) → x < 2 * w * w ^ k → xb_ok w sb nb oc k x → oc (xb_at w sb nb k x) := by
  intro k x hlt hx hok
  have hd4 := (I.1 h hm).2.2.2.1
  obtain ⟨i, h1, h2, -⟩ := xb_all hw0 I S (fun k x => xb_lt (k, x) (dep (q h), cd (q h))) (fun k x hz => by
      rcases hz with h | ⟨h, -⟩ <;> dsimp only at h <;> exact Or.inl (by dsimp only; omega)) (fun k x hz => by
      rcases hz with h | ⟨h, -⟩ <;> dsimp only at h <;> omega) (fun k x i hz hi hle => by
      apply Classical.byContradiction
      intro hnot
      have hge : xb_le (dep (q h), cd (q h)) (dep (q i), cd (q i)) := by
        by_cases hih : i = h
        · subst hih
          exact Or.inr ⟨rfl, Nat.le_refl _⟩
        · rcases I.2.2.1 h i (by omega) hi with g | ⟨g, g'⟩
          · exact Or.inl g
          · exact Or.inr ⟨g, Nat.le_of_lt g'⟩
      rcases hz with z | ⟨z, z'⟩ <;> rcases hle with y | ⟨y, y'⟩ <;> rcases hge with x | ⟨x, x'⟩ <;> dsimp only at * <;> omega) k x hlt hok hx
  rw [← h2]
  exact (I.2.2.2.1 i h1).1
/-- nothing came up: there is no path -/
theorem xb_none {m : Nat} {Q Bf Dp : Nat → Int32} {q dep cd : Nat → Nat} (hw0 : 0 < w) (I : xb_inv w sb nb oc m m m Q Bf Dp q dep cd) (S : xb_sta w sb nb m q dep cd) :
    ∀ k x, k ≤ 4 → x < 2 * w * w ^ k → xb_ok w sb nb oc k x → oc (xb_at w sb nb k x) := by
  intro k x hk hx hok
  obtain ⟨i, h1, h2, -⟩ := xb_all hw0 I S (fun k _ => k ≤ 4) (fun k x hz => by omega) (fun k x hz => hz) (fun k x i _ hi _ => hi) k x hk hok hx
  rw [← h2]
  exact (I.2.2.2.1 i h1).1
/-! the path itself -/
/-- the j-th place of the path of d moves with code x -/
def xb_pt (w : Nat) (sb nb : Nat → Nat) (d x j : Nat) : Nat := xb_at w sb nb j (x / w ^ (d - j))
def xb_keep (Bf : Nat → Int32) : Nat → Int32 → (Nat → Int32) → (Nat → Int32)
  | 0, p, s => upd s 0 p
  | k + 1, p, s => xb_keep Bf k (Bf p.toNatClampNeg) (upd s (k + 1) p)
theorem xb_keep_is (hw : 8 * w < 2 ^ 31) {hp he m : Nat} {Q Bf Dp : Nat → Int32} {q dep cd : Nat → Nat} (I : xb_inv w sb nb oc hp he m Q Bf Dp q dep cd) :
    ∀ (k i : Nat) (s : Nat → Int32), i < m → dep (q i) = k → (∀ j, j ≤ k → xb_keep Bf k (nI (q i)) s j = nI (xb_pt w sb nb k (cd (q i)) j)) ∧ (∀ j, k < j → xb_keep Bf k (nI (q i)) s j = s j) ∧
      ∀ j, j ≤ k → ∃ i', i' < m ∧ q i' = xb_pt w sb nb k (cd (q i)) j ∧ dep (q i') = j ∧ (j < k → i' < hp) := by
  intro k
  induction k with
  | zero =>
    intro i s hi hd
    obtain ⟨e1, e2, e3, e4, e5, e6, e7⟩ := (I.1 i hi).2
    have hpt : xb_pt w sb nb 0 (cd (q i)) 0 = q i := by
      rw [hd] at e4
      rw [xb_pt, Nat.sub_self, Nat.pow_zero, Nat.div_one]
      exact e4.symm
    refine ⟨fun j hj => ?_, fun j hj => ?_, fun j hj => ?_⟩
    · have : j = 0 := by omega
      subst this
      rw [xb_keep, pk_us, hpt]
    · rw [xb_keep, pk_un (by omega)]
    · have : j = 0 := by omega
      subst this
      exact ⟨i, hi, hpt.symm, hd, fun h => by omega⟩
  | succ k ih =>
    intro i s hi hd
    obtain ⟨e1, e2, e3, e4, e5, e6, e7⟩ := (I.1 i hi).2
    obtain ⟨i', a1, a2, a3, a4, a5⟩ := e7 k hd
    have hi'm : i' < m := Nat.lt_of_lt_of_le a1 I.2.2.2.2.1
    have hcl : (nI (q i)).toNatClampNeg = q i := nI_clamp (by omega)
    obtain ⟨g1, g2, g3⟩ := ih i' (upd s (k + 1) (nI (q i))) hi'm a3
    have hpt : ∀ j, j ≤ k → xb_pt w sb nb (k + 1) (cd (q i)) j = xb_pt w sb nb k (cd (q i')) j := by
      intro j hj
      rw [xb_pt, xb_pt, a4, Nat.div_div_eq_div_mul, show k + 1 - j = (k - j) + 1 by omega, Nat.pow_succ, Nat.mul_comm]
    have hpt' : xb_pt w sb nb (k + 1) (cd (q i)) (k + 1) = q i := by
      rw [hd] at e4
      rw [xb_pt, Nat.sub_self, Nat.pow_zero, Nat.div_one]
      exact e4.symm
    have hk : xb_keep Bf (k + 1) (nI (q i)) s = xb_keep Bf k (nI (q i')) (upd s (k + 1) (nI (q i))) := by
      rw [xb_keep, hcl, a5]
    rw [hk]
    refine ⟨fun j hj => ?_, fun j hj => ?_, fun j hj => ?_⟩
    · by_cases hjk : j = k + 1
      · subst hjk
        rw [g2 _ (by omega), pk_us, hpt']
      · rw [g1 j (by omega), hpt j (by omega)]
    · rw [g2 j (by omega), pk_un (by omega)]
    · by_cases hjk : j = k + 1
      · subst hjk
        exact ⟨i, hi, hpt'.symm, hd, fun h => by omega⟩
      · obtain ⟨i2, b1, b2, b3, b4⟩ := g3 j (by omega)
        refine ⟨i2, b1, by rw [hpt j (by omega)]; exact b2, b3, fun h => ?_⟩
        by_cases hjk2 : j = k
        · subst hjk2
          have hqq : q i2 = q i' := by
            rw [b2, xb_pt, Nat.sub_self, Nat.pow_zero, Nat.div_one, a4]
            exact a2.symm
          have : i2 = i' := by
            apply Classical.byContradiction
            intro hne
            rcases Nat.lt_or_gt_of_ne hne with hl | hl
            · rcases I.2.2.1 i2 i' hl hi'm with z | ⟨z, z'⟩
              · rw [hqq] at z; exact absurd z (Nat.lt_irrefl _)
              · rw [hqq] at z'; exact absurd z' (Nat.lt_irrefl _)
            · rcases I.2.2.1 i' i2 hl b1 with z | ⟨z, z'⟩
              · rw [hqq] at z; exact absurd z (Nat.lt_irrefl _)
              · rw [hqq] at z'; exact absurd z' (Nat.lt_irrefl _)
          omega
        · exact b4 (by omega)
end XBL
