/-! What the reference's methods do, without the machine.
  scalars: 0 time, 1 hand, 2 tokens, 3 next, 4 result, 5 kind, 6 key, 7 put, 8 life, 9 wanted, 10 target, 11 last, 12 from, 13 evictions, 14 moves, 15 allRetries, 16 waits, 17 near, 18 dead.
  arrays: 1 held, 2 taken, 3 keys, 4 values, 5 marks, 6 ends, 7 bits, 8 versions, 9 path, 10 states, 11 sought, 12 kept, 13 retries, 14 got, 15 copied, 16 copiedMark, 17 copiedEnd. -/
def xm_bk (k c : Int32) : Int32 := if c = 0 then xs_b1 k else xs_b2 k
def xm_si (hd ky : Nat → Int32) (key : Int32) : Nat → Nat → Int32
  | 0, _ => -1
  | r + 1, p => if hd p - 1 < 0 then xm_si hd ky key r (p + 1) else if ky (hd p - 1).toNatClampNeg = key then nI p else xm_si hd ky key r (p + 1)
def xm_sea (w : Nat) (τ : xf_T) (key c : Int32) : Int32 := xm_si (τ.2 1) (τ.2 3) key w (w * (xm_bk key c).toNatClampNeg)
def xm_nr (hd ky : Nat → Int32) (key : Int32) : Nat → Nat → Int32 → Int32
  | 0, _, a => a
  | r + 1, p, a => xm_nr hd ky key r (p + 1) (if hd p ≤ 0 then a else if xs_tag (ky (hd p - 1).toNatClampNeg) = xs_tag key then a + 1 else a)
def xm_cn (w : Nat) (b f : Int32) : Nat := if f < 0 then w else f.toNatClampNeg - w * b.toNatClampNeg
def xm_look (w : Nat) (τ : xf_T) (key c : Int32) : xf_T := xf_I τ 17 (xm_nr (τ.2 1) (τ.2 3) key (xm_cn w (xm_bk key c) (xm_sea w τ key c)) (w * (xm_bk key c).toNatClampNeg) (τ.1 17))
def xm_lb (w : Nat) (τ : xf_T) (key : Int32) : xf_T := if xm_sea w τ key 0 < 0 then xm_look w (xm_look w τ key 0) key 1 else xm_look w τ key 0
def xm_whe (w : Nat) (τ : xf_T) (key : Int32) : Int32 := if xm_sea w τ key 0 < 0 then xm_sea w τ key 1 else xm_sea w τ key 0
def xm_over (τ : xf_T) (e : Int32) : Int32 := if e = 0 then 0 else if τ.1 0 < e then 0 else 1
def xm_grow (τ : xf_T) (key d : Int32) : xf_T := xf_A τ 8 (xs_str key).toNatClampNeg (τ.2 8 (xs_str key).toNatClampNeg + d)
def xm_rmf (N : Nat) (hd : Nat → Int32) (i : Int32) : Nat → Int32 := fun p => if p < N then (if hd p = i + 1 then 0 else hd p) else hd p
def xm_rm1 (w : Nat) (τ : xf_T) (i : Int32) : xf_T := xf_A (xs_sA τ 1 (xm_rmf (8 * w) (τ.2 1) i)) 2 i.toNatClampNeg 0
def xm_rem (w : Nat) (τ : xf_T) (i : Int32) : xf_T := xm_grow (xm_rm1 w τ i) (τ.2 3 i.toNatClampNeg) 2
def xm_mny (tk : Nat → Int32) : Nat → Int32
  | 0 => 0
  | k + 1 => xm_mny tk k + (if tk k = 0 then 0 else 1)
def xm_fin (τ : xf_T) (v : Int32) : xf_T := xf_I (xf_I τ 3 0) 4 v
def xm_stamp (τ : xf_T) (i : Int32) : xf_T := xf_A (xf_A (xf_I τ 2 (τ.1 2 + 1)) 5 i.toNatClampNeg (τ.1 2 + 1)) 6 i.toNatClampNeg (if τ.1 8 = 0 then 0 else τ.1 0 + τ.1 8)
def xm_fnd (w : Nat) (τ : xf_T) (key : Int32) : Int32 := if xm_whe w τ key < 0 then -1 else τ.2 1 (xm_whe w τ key).toNatClampNeg - 1
/-- behind the look: which way -/
def xm_way (n w : Nat) (τ : xf_T) : xf_T :=
  if τ.1 10 < 0 then (if τ.1 5 = 0 ∨ τ.1 5 = 1 then (if xm_mny (τ.2 2) n = nI n then xf_I τ 3 4 else xf_I τ 3 5) else if τ.1 5 = 2 then xm_fin τ 2 else xm_fin τ 4)
  else if τ.1 5 = 0 ∨ τ.1 5 = 2 then xf_I τ 3 2 else if τ.1 5 = 1 then xm_fin τ 2 else if τ.1 5 = 3 then (if τ.2 5 (τ.1 10).toNatClampNeg = τ.1 9 then xf_I τ 3 2 else xm_fin τ 3) else xm_fin (xm_rem w τ (τ.1 10)) 5
def xm_bg1 (w : Nat) (τ : xf_T) : xf_T := xf_I (xm_lb w τ (τ.1 6)) 10 (xm_fnd w τ (τ.1 6))
def xm_bg2 (w : Nat) (τ : xf_T) : xf_T := if xm_fnd w τ (τ.1 6) < 0 then xm_bg1 w τ else if xm_over τ (τ.2 6 (xm_fnd w τ (τ.1 6)).toNatClampNeg) = 0 then xm_bg1 w τ else xf_I (xf_I (xm_rem w (xm_bg1 w τ) (xm_fnd w τ (τ.1 6))) 18 ((xm_rem w (xm_bg1 w τ) (xm_fnd w τ (τ.1 6))).1 18 + 1)) 10 (-1)
def xm_begin (n w : Nat) (τ : xf_T) : xf_T := xm_way n w (xm_bg2 w τ)
def xm_turn (n : Nat) (τ : xf_T) : xf_T := xf_I τ 1 (xs_rem (τ.1 1 + 1) (nI n))
def xm_evl (n : Nat) : Nat → xf_T → xf_T
  | 0, τ => τ
  | r + 1, τ => if τ.2 7 (τ.1 1).toNatClampNeg = 0 then τ else xm_evl n r (xm_turn n (xf_A τ 7 (τ.1 1).toNatClampNeg 0))
def xm_ev1 (n w : Nat) (τ : xf_T) : xf_T := xm_turn n (xm_rem w (xm_evl n (n + 1) τ) ((xm_evl n (n + 1) τ).1 1))
def xm_evict (n w : Nat) (τ : xf_T) : xf_T := xf_I (xf_I (xm_ev1 n w τ) 13 ((xm_ev1 n w τ).1 13 + 1)) 3 5
def xm_sb (key : Int32) (y : Nat) : Nat := if y = 0 then (xs_b1 key).toNatClampNeg else (xs_b2 key).toNatClampNeg
def xm_nb (w : Nat) (τ : xf_T) (p : Nat) : Nat := (xs_ob (nI (p / w)) (τ.2 3 (τ.2 1 p - 1).toNatClampNeg)).toNatClampNeg
def xm_sk (w : Nat) (τ : xf_T) : Option Nat × (Nat → Int32) := xe_sd w (xm_sb (τ.1 6)) (xm_nb w τ) (τ.2 1) 5 0 (τ.2 9)
def xm_res (τ : xf_T) (R : Option Nat × (Nat → Int32)) : xf_T := match R.1 with
  | none => xm_fin (xs_sA τ 9 R.2) 6
  | some d => xf_I (xf_I (xf_I (xs_sA τ 9 R.2) 11 (nI d)) 12 (nI d - 1)) 3 (if nI d ≤ 0 then 8 else 6)
def xm_seek (w : Nat) (τ : xf_T) : xf_T := xm_res τ (xm_sk w τ)
def xm_mi (τ : xf_T) : Int32 := τ.2 1 (τ.2 9 (τ.1 12).toNatClampNeg).toNatClampNeg - 1
def xm_mv0 (τ : xf_T) : xf_T := xm_grow τ (τ.2 3 (xm_mi τ).toNatClampNeg) 1
def xm_move (τ : xf_T) : xf_T := if τ.1 3 = 6 then xf_I (xf_A (xm_mv0 τ) 1 (τ.2 9 (τ.1 12 + 1).toNatClampNeg).toNatClampNeg (xm_mi τ + 1)) 3 7
  else xf_I (xf_I (xf_I (xf_A (xm_mv0 τ) 1 (τ.2 9 (τ.1 12).toNatClampNeg).toNatClampNeg 0) 14 (τ.1 14 + 1)) 12 (τ.1 12 - 1)) 3 (if τ.1 12 - 1 < 0 then 8 else 6)
def xm_en1 (τ : xf_T) (i : Nat) : xf_T := xf_A (xf_A (xf_A τ 2 i 1) 3 i (τ.1 6)) 4 i (τ.1 7)
def xm_enter (τ : xf_T) : xf_T := xm_fin (xf_A (xf_A (xm_stamp (xm_en1 τ (xs_low (τ.2 2) 31 0)) (nI (xs_low (τ.2 2) 31 0))) 7 (xs_low (τ.2 2) 31 0) 0) 1 (τ.2 9 0).toNatClampNeg (nI (xs_low (τ.2 2) 31 0) + 1)) 1
def xm_chV (τ : xf_T) : xf_T := xf_I (xf_A (xm_grow τ (τ.1 6) 1) 4 (τ.1 10).toNatClampNeg (τ.1 7)) 3 3
def xm_chT (τ : xf_T) : xf_T := xm_fin (xm_grow (xm_stamp τ (τ.1 10)) (τ.1 6) 1) 1
def xm_one (n w : Nat) (τ : xf_T) : xf_T := if τ.1 3 = 1 then xm_begin n w τ else if τ.1 3 = 2 then xm_chV τ else if τ.1 3 = 3 then xm_chT τ else if τ.1 3 = 4 then xm_evict n w τ else if τ.1 3 = 5 then xm_seek w τ else if τ.1 3 = 6 then xm_move τ else if τ.1 3 = 7 then xm_move τ else xm_enter τ
def xm_work (n w : Nat) : Nat → xf_T → Int32 → xf_T × Int32
  | 0, τ, d => (τ, d)
  | r + 1, τ, d => if τ.1 3 ≤ 0 then (τ, d) else xm_work n w r (xm_one n w τ) (d + 1)
/-! the readers -/
def xm_keep (τ : xf_T) (r : Nat) (now : Int32) : xf_T := if xs_rem now 2 = 0 then xf_A (xf_A τ 12 r now) 10 r 2 else xf_I τ 16 (τ.1 16 + 1)
def xm_find (w : Nat) (τ : xf_T) (r : Nat) (s : Int32) : xf_T := if xm_sea w τ (τ.2 11 r) (s - 2) < 0 then xf_A (xf_A (xm_look w τ (τ.2 11 r) (s - 2)) 14 r 0) 10 r (if s = 2 then 3 else 5) else xf_A (xf_A (xm_look w τ (τ.2 11 r) (s - 2)) 14 r (τ.2 1 (xm_sea w τ (τ.2 11 r) (s - 2)).toNatClampNeg)) 10 r 4
def xm_copy (τ : xf_T) (r : Nat) : xf_T := xf_A (xf_A (xf_A (xf_A τ 15 r (τ.2 4 (τ.2 14 r - 1).toNatClampNeg)) 16 r (τ.2 5 (τ.2 14 r - 1).toNatClampNeg)) 17 r (τ.2 6 (τ.2 14 r - 1).toNatClampNeg)) 10 r 5
def xm_hit (τ : xf_T) (r : Nat) : Int32 := if τ.2 14 r ≤ 0 then 0 else if xm_over τ (τ.2 17 r) = 0 then 1 else 0
def xm_chk (τ : xf_T) (r : Nat) : xf_T := if τ.2 8 (xs_str (τ.2 11 r)).toNatClampNeg = τ.2 12 r then (if xm_hit τ r = 0 then xf_A τ 10 r 8 else xf_A (xf_A τ 7 (τ.2 14 r - 1).toNatClampNeg 1) 10 r 7) else xf_A (xf_A (xf_I τ 15 (τ.1 15 + 1)) 13 r (τ.2 13 r + 1)) 10 r (if τ.2 13 r + 1 < 3 then 1 else 6)
def xm_lhit (w : Nat) (τ : xf_T) (r : Nat) : Int32 := if xm_fnd w τ (τ.2 11 r) < 0 then 0 else if xm_over τ (τ.2 6 (xm_fnd w τ (τ.2 11 r)).toNatClampNeg) = 0 then 1 else 0
def xm_lck1 (w : Nat) (τ : xf_T) (r : Nat) : xf_T := xf_A (xf_A (xf_A (xm_lb w τ (τ.2 11 r)) 15 r (τ.2 4 (xm_fnd w τ (τ.2 11 r)).toNatClampNeg)) 16 r (τ.2 5 (xm_fnd w τ (τ.2 11 r)).toNatClampNeg)) 7 (xm_fnd w τ (τ.2 11 r)).toNatClampNeg 1
def xm_lck (w : Nat) (τ : xf_T) (r : Nat) : xf_T := if τ.1 3 ≤ 0 then (if xm_lhit w τ r = 0 then xf_A (xm_lb w τ (τ.2 11 r)) 10 r 8 else xf_A (xm_lck1 w τ r) 10 r 7) else xf_I τ 16 (τ.1 16 + 1)
def xm_step (w : Nat) (τ : xf_T) (r : Nat) : xf_T := if τ.2 10 r = 1 then xm_keep τ r (τ.2 8 (xs_str (τ.2 11 r)).toNatClampNeg) else if τ.2 10 r = 2 then xm_find w τ r 2 else if τ.2 10 r = 3 then xm_find w τ r 3 else if τ.2 10 r = 4 then xm_copy τ r else if τ.2 10 r = 5 then xm_chk τ r else xm_lck w τ r
