/-! What the class's methods do, without the machine. A state: scalars by number, arrays by the number of their cell.
  scalars: 0 evictions, 1 moves, 2 retries, 3 waits, 4 nearMisses, 5 expiredRemoved; 6 usedCount, 7 time, 8 latestToken; 9 outcome, 10 hand, 11 kind, 12 key, 13 newValue, 14 life, 15 knownToken, 16 next, 17 changed, 18 moving; 19 length, 20 queued;
  reader r at 24 + 8 r: +0 state, +1 copiedValue, +2 copiedToken, +3 key, +4 retries, +5 keptVersion, +6 keptItem, +7 copiedExpiry.
  arrays: 5 places, 6 keys, 7 values, 8 tokens, 9 expiries, 10 bits, 11 usedFlags, 12 versions, 14 stops, 15 queue, 16 before, 17 depths. n: items, w: ways. -/
def xs_ush (x y : Int32) : Int32 := (x.toUInt32 >>> (y.toUInt32 &&& Int32.toUInt32 31)).toInt32
def xs_rem (x y : Int32) : Int32 := x - x / y * y
def xs_mix (k : Int32) : Int32 := (k ^^^ xs_ush k 15) * 1368264107
def xs_tag (k : Int32) : Int32 := xs_ush (xs_mix k) 28
def xs_str (k : Int32) : Int32 := xs_ush (xs_mix k) 23 &&& 3
def xs_b1 (k : Int32) : Int32 := xs_ush (xs_mix k) 25 &&& 7
def xs_ob (b k : Int32) : Int32 := b ^^^ (1 + xs_rem (xs_tag k) 7)
def xs_b2 (k : Int32) : Int32 := xs_ob (xs_b1 k) k
def xs_hash (k : Int32) : Int32 := xs_b1 k + 8 * xs_b2 k + 64 * xs_tag k + 1024 * xs_str k
def xs_isW (x a b : Int32) : Int32 := if x < a then 0 else if b < x then 0 else 1
/-- a whole array is replaced -/
def xs_sA (σ : xf_T) (j : Nat) (f : Nat → Int32) : xf_T := (σ.1, fun k => if k = j then f else σ.2 k)
def xs_full (n : Nat) (σ : xf_T) : Int32 := if σ.1 6 = nI n then 1 else 0
def xs_over (σ : xf_T) (e : Int32) : Int32 := if e = 0 then 0 else if σ.1 7 < e then 0 else 1
def xs_fi (pl ky : Nat → Int32) (key : Int32) : Nat → Nat → Int32
  | 0, _ => -1
  | r + 1, p => if pl p = -1 then xs_fi pl ky key r (p + 1) else if ky (pl p).toNatClampNeg = key then nI p else xs_fi pl ky key r (p + 1)
def xs_findIn (w : Nat) (σ : xf_T) (b key : Int32) : Int32 := xs_fi (σ.2 5) (σ.2 6) key w (w * b.toNatClampNeg)
def xs_find (w : Nat) (σ : xf_T) (key : Int32) : Int32 := if xs_findIn w σ (xs_b1 key) key = -1 then xs_findIn w σ (xs_b2 key) key else xs_findIn w σ (xs_b1 key) key
def xs_nr (pl ky : Nat → Int32) (key : Int32) : Nat → Nat → Int32 → Int32
  | 0, _, a => a
  | r + 1, p, a => xs_nr pl ky key r (p + 1) (if pl p = -1 then a else if xs_tag (ky (pl p).toNatClampNeg) = xs_tag key then a + 1 else a)
def xs_cn (w : Nat) (b f : Int32) : Nat := if f = -1 then w else f.toNatClampNeg - w * b.toNatClampNeg
def xs_lkIn (w : Nat) (σ : xf_T) (b key : Int32) : xf_T := xf_I σ 4 (xs_nr (σ.2 5) (σ.2 6) key (xs_cn w b (xs_findIn w σ b key)) (w * b.toNatClampNeg) (σ.1 4))
def xs_lk (w : Nat) (σ : xf_T) (key : Int32) : xf_T := if xs_findIn w σ (xs_b1 key) key = -1 then xs_lkIn w (xs_lkIn w σ (xs_b1 key) key) (xs_b2 key) key else xs_lkIn w σ (xs_b1 key) key
def xs_ver (σ : xf_T) (key : Int32) : Int32 := σ.2 12 (xs_str key).toNatClampNeg
def xs_grow (σ : xf_T) (key d : Int32) : xf_T := xf_A σ 12 (xs_str key).toNatClampNeg (σ.2 12 (xs_str key).toNatClampNeg + d)
def xs_rmf (N : Nat) (pl : Nat → Int32) (i : Int32) : Nat → Int32 := fun p => if p < N then (if pl p = i then -1 else pl p) else pl p
def xs_rm1 (w : Nat) (σ : xf_T) (i : Int32) : xf_T := xf_A (xs_sA σ 5 (xs_rmf (8 * w) (σ.2 5) i)) 11 i.toNatClampNeg 0
def xs_rm2 (w : Nat) (σ : xf_T) (i : Int32) : xf_T := xf_I (xs_rm1 w σ i) 6 ((xs_rm1 w σ i).1 6 - 1)
def xs_remove (w : Nat) (σ : xf_T) (i : Int32) : xf_T := xs_grow (xs_rm2 w σ i) ((xs_rm2 w σ i).2 6 i.toNatClampNeg) 2
def xs_renew (σ : xf_T) (i life : Int32) : xf_T := xf_A (xf_A (xf_I σ 8 (σ.1 8 + 1)) 8 i.toNatClampNeg (σ.1 8 + 1)) 9 i.toNatClampNeg (if life = 0 then 0 else σ.1 7 + life)
def xs_low (us : Nat → Int32) : Nat → Nat → Nat
  | 0, i => i
  | r + 1, i => if us i = 0 then i else xs_low us r (i + 1)
def xs_ins1 (σ : xf_T) (i : Nat) (key value : Int32) : xf_T := xf_A (xf_A (xf_I (xf_A σ 11 i 1) 6 (σ.1 6 + 1)) 6 i key) 7 i value
def xs_ins (n : Nat) (σ : xf_T) (place key value life : Int32) : xf_T := xf_A (xf_A (xs_renew (xs_ins1 σ (xs_low (σ.2 11) (n - 1) 0) key value) (nI (xs_low (σ.2 11) (n - 1) 0)) life) 10 (xs_low (σ.2 11) (n - 1) 0) 0) 5 place.toNatClampNeg (nI (xs_low (σ.2 11) (n - 1) 0))
/-! the search -/
def xs_nb (w : Nat) (σ : xf_T) (p : Nat) : Nat := (xs_ob (nI (p / w)) (σ.2 6 (σ.2 5 p).toNatClampNeg)).toNatClampNeg
def xs_pack (σ : xf_T) (a : (Nat → Int32) × (Nat → Int32) × (Nat → Int32) × Nat) : xf_T := xf_I (xs_sA (xs_sA (xs_sA σ 15 a.1) 16 a.2.1) 17 a.2.2.1) 20 (nI a.2.2.2)
/-- from the head h on, r heads left: the place that was found, if one was, and the queue as it then is -/
def xs_bfs (w : Nat) (σ : xf_T) : Nat → Nat → (Nat → Int32) × (Nat → Int32) × (Nat → Int32) × Nat → Option Nat × (Nat → Int32) × (Nat → Int32) × (Nat → Int32) × Nat
  | 0, _, a => (none, a)
  | r + 1, h, a => if h < a.2.2.2 then (if σ.2 5 (a.1 h).toNatClampNeg = -1 then (some (a.1 h).toNatClampNeg, a) else if 4 ≤ a.2.2.1 (a.1 h).toNatClampNeg then xs_bfs w σ r (h + 1) a else xs_bfs w σ r (h + 1) (xb_enter (a.1 h) (a.2.2.1 (a.1 h).toNatClampNeg + 1) w (w * xs_nb w σ (a.1 h).toNatClampNeg) a)) else (none, a)
/-- the first k elements are v -/
def xs_fill (N : Nat) (f : Nat → Int32) (v : Int32) (k : Nat) : Nat → Int32 := fun p => if p < k then v else f p
def xs_bfs0 (w : Nat) (σ : xf_T) (key : Int32) : Option Nat × (Nat → Int32) × (Nat → Int32) × (Nat → Int32) × Nat := xs_bfs w σ (8 * w) 0 (xb_enter (-1) 0 w (w * (xs_b2 key).toNatClampNeg) (xb_enter (-1) 0 w (w * (xs_b1 key).toNatClampNeg) (σ.2 15, σ.2 16, xs_fill (8 * w) (σ.2 17) (-1) (8 * w), 0)))
/-- 'keep' -/
def xs_kp (σ : xf_T) (last : Int32) : xf_T := xf_I (xs_sA σ 14 (xb_keep (σ.2 16) (σ.2 17 last.toNatClampNeg).toNatClampNeg last (σ.2 14))) 19 (σ.2 17 last.toNatClampNeg)
def xs_seekB (w : Nat) (σ : xf_T) (key : Int32) : Int32 := if (xs_bfs0 w σ key).1 = none then 0 else 1
def xs_res (σ : xf_T) (R : Option Nat × (Nat → Int32) × (Nat → Int32) × (Nat → Int32) × Nat) : xf_T := match R.1 with
  | none => xs_pack σ R.2
  | some p => xs_kp (xs_pack σ R.2) (nI p)
def xs_seek (w : Nat) (σ : xf_T) (key : Int32) : xf_T := xs_res σ (xs_bfs0 w σ key)
/-! the writer -/
def xs_begin (σ : xf_T) (kind key nv life kt : Int32) : xf_T := xf_I (xf_I (xf_I (xf_I (xf_I (xf_I (xf_I σ 11 kind) 12 key) 13 nv) 14 life) 15 kt) 9 0) 16 0
def xs_whenF (w : Nat) (σ : xf_T) (f : Int32) : xf_T := if σ.1 11 = 1 then xf_I σ 9 2 else if σ.1 11 = 4 then xf_I (xs_remove w σ f) 9 5 else if σ.1 11 = 3 then (if σ.2 8 f.toNatClampNeg = σ.1 15 then xf_I (xf_I σ 17 f) 16 1 else xf_I σ 9 3) else xf_I (xf_I σ 17 f) 16 1
def xs_whenN (n : Nat) (σ : xf_T) : xf_T := if σ.1 11 = 2 then xf_I σ 9 2 else if σ.1 11 = 3 then xf_I σ 9 4 else if σ.1 11 = 4 then xf_I σ 9 4 else xf_I σ 16 (if xs_full n σ = 0 then 4 else 3)
def xs_fnd (w : Nat) (σ : xf_T) (key : Int32) : Int32 := if xs_find w σ key = -1 then -1 else σ.2 5 (xs_find w σ key).toNatClampNeg
def xs_luk (n w : Nat) (σ : xf_T) : xf_T := if xs_fnd w σ (σ.1 12) = -1 then xs_whenN n (xs_lk w σ (σ.1 12)) else if xs_over σ (σ.2 9 (xs_fnd w σ (σ.1 12)).toNatClampNeg) = 0 then xs_whenF w (xs_lk w σ (σ.1 12)) (xs_fnd w σ (σ.1 12)) else xs_whenN n (xf_I (xs_remove w (xs_lk w σ (σ.1 12)) (xs_fnd w σ (σ.1 12))) 5 ((xs_remove w (xs_lk w σ (σ.1 12)) (xs_fnd w σ (σ.1 12))).1 5 + 1))
def xs_chV (σ : xf_T) : xf_T := xf_I (xf_A (xs_grow σ (σ.1 12) 1) 7 (σ.1 17).toNatClampNeg (σ.1 13)) 16 2
def xs_chT (σ : xf_T) : xf_T := xf_I (xs_grow (xs_renew σ (σ.1 17) (σ.1 14)) (σ.1 12) 1) 9 1
def xs_turn (n : Nat) (σ : xf_T) : xf_T := xf_I σ 10 (if nI n ≤ σ.1 10 + 1 then 0 else σ.1 10 + 1)
def xs_evl (n : Nat) : Nat → xf_T → xf_T
  | 0, σ => σ
  | r + 1, σ => if σ.2 10 (σ.1 10).toNatClampNeg = 0 then σ else xs_evl n r (xs_turn n (xf_A σ 10 (σ.1 10).toNatClampNeg 0))
def xs_ev1 (n w : Nat) (σ : xf_T) : xf_T := xs_turn n (xs_remove w (xs_evl n n σ) ((xs_evl n n σ).1 10))
def xs_evict (n w : Nat) (σ : xf_T) : xf_T := xf_I (xf_I (xs_ev1 n w σ) 0 ((xs_ev1 n w σ).1 0 + 1)) 16 4
def xs_chM (σ : xf_T) : xf_T := xf_I (xf_I σ 18 (σ.1 18 - 1)) 16 (if σ.1 18 - 1 < 0 then 7 else 5)
def xs_seekP (w : Nat) (σ : xf_T) : xf_T := if xs_seekB w σ (σ.1 12) = 0 then xf_I (xs_seek w σ (σ.1 12)) 9 6 else xs_chM (xf_I (xs_seek w σ (σ.1 12)) 18 ((xs_seek w σ (σ.1 12)).1 19))
def xs_mi (σ : xf_T) : Int32 := σ.2 5 (σ.2 14 (σ.1 18).toNatClampNeg).toNatClampNeg
def xs_mvOn (σ : xf_T) : xf_T := xf_I (xf_A (xs_grow σ (σ.2 6 (xs_mi σ).toNatClampNeg) 1) 5 (σ.2 14 (σ.1 18 + 1).toNatClampNeg).toNatClampNeg (xs_mi σ)) 16 6
def xs_mv1 (σ : xf_T) : xf_T := xs_grow (xf_A σ 5 (σ.2 14 (σ.1 18).toNatClampNeg).toNatClampNeg (-1)) (σ.2 6 (xs_mi σ).toNatClampNeg) 1
def xs_mvOff (σ : xf_T) : xf_T := xs_chM (xf_I (xs_mv1 σ) 1 ((xs_mv1 σ).1 1 + 1))
def xs_insK (n : Nat) (σ : xf_T) : xf_T := xf_I (xs_ins n σ (σ.2 14 0) (σ.1 12) (σ.1 13) (σ.1 14)) 9 1
def xs_goOn (n w : Nat) (σ : xf_T) : xf_T := if σ.1 16 = 0 then xs_luk n w σ else if σ.1 16 = 1 then xs_chV σ else if σ.1 16 = 2 then xs_chT σ else if σ.1 16 = 3 then xs_evict n w σ else if σ.1 16 = 4 then xs_seekP w σ else if σ.1 16 = 5 then xs_mvOn σ else if σ.1 16 = 6 then xs_mvOff σ else xs_insK n σ
/-! the readers: z is 24 + 8 r -/
def xs_kpV (z : Nat) (σ : xf_T) : xf_T := if xs_ver σ (σ.1 (z + 3)) &&& 1 = 0 then xf_I (xf_I σ (z + 5) (xs_ver σ (σ.1 (z + 3)))) z 2 else xf_I (xf_I σ (z + 5) (xs_ver σ (σ.1 (z + 3)))) 3 (σ.1 3 + 1)
def xs_into (w z : Nat) (σ : xf_T) (b s : Int32) : xf_T := if xs_findIn w σ b (σ.1 (z + 3)) = -1 then xf_I (xf_I (xs_lkIn w σ b (σ.1 (z + 3))) (z + 6) (-1)) z s else xf_I (xf_I (xs_lkIn w σ b (σ.1 (z + 3))) (z + 6) (σ.2 5 (xs_findIn w σ b (σ.1 (z + 3))).toNatClampNeg)) z 4
def xs_copy (z : Nat) (σ : xf_T) : xf_T := xf_I (xf_I (xf_I σ (z + 1) (σ.2 7 (σ.1 (z + 6)).toNatClampNeg)) (z + 2) (σ.2 8 (σ.1 (z + 6)).toNatClampNeg)) (z + 7) (σ.2 9 (σ.1 (z + 6)).toNatClampNeg)
def xs_endR (z : Nat) (σ : xf_T) (hit : Int32) : xf_T := if hit = 0 then xf_I σ z 8 else xf_I (xf_A σ 10 (σ.1 (z + 6)).toNatClampNeg 1) z 7
def xs_hit (z : Nat) (σ : xf_T) : Int32 := if σ.1 (z + 6) = -1 then 0 else if xs_over σ (σ.1 (z + 7)) = 0 then 1 else 0
def xs_chk (z : Nat) (σ : xf_T) : xf_T := if xs_ver σ (σ.1 (z + 3)) = σ.1 (z + 5) then xs_endR z σ (xs_hit z σ) else xf_I (xf_I (xf_I σ (z + 4) (σ.1 (z + 4) + 1)) 2 (σ.1 2 + 1)) z (if σ.1 (z + 4) + 1 < 3 then 1 else 6)
def xs_lck1 (w z : Nat) (σ : xf_T) : xf_T := xf_I (xs_lk w σ (σ.1 (z + 3))) (z + 6) (xs_fnd w σ (σ.1 (z + 3)))
def xs_lck (w z : Nat) (σ : xf_T) : xf_T := if σ.1 9 = 0 then xf_I σ 3 (σ.1 3 + 1) else if xs_fnd w σ (σ.1 (z + 3)) = -1 then xs_endR z (xs_lck1 w z σ) (xs_hit z (xs_lck1 w z σ)) else xs_endR z (xs_copy z (xs_lck1 w z σ)) (xs_hit z (xs_copy z (xs_lck1 w z σ)))
def xs_goR (w z : Nat) (σ : xf_T) : xf_T := if σ.1 z = 1 then xs_kpV z σ else if σ.1 z = 2 then xs_into w z σ (xs_b1 (σ.1 (z + 3))) 3 else if σ.1 z = 3 then xs_into w z σ (xs_b2 (σ.1 (z + 3))) 5 else if σ.1 z = 4 then xf_I (xs_copy z σ) z 5 else if σ.1 z = 5 then xs_chk z σ else xs_lck w z σ
/-! the face -/
def xs_work (n w : Nat) : Nat → xf_T → Int32 → xf_T × Int32
  | 0, σ, d => (σ, d)
  | r + 1, σ, d => if σ.1 9 = 0 then xs_work n w r (xs_goOn n w σ) (d + 1) else (σ, d)
