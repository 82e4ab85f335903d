/-! The worlds: the class's 21 cells and the reference's 18, at addresses by number; what holds of them. Printed by wip/gen/mkworlds.py. -/
abbrev xw_T : Type := Launch × va_G × (Nat → Nat) × ClassId × ClassId × ClassId × Nat × Nat
def xw_l (P : xw_T) : Launch := P.1
def xw_D (P : xw_T) : va_G := P.2.1
def xw_a (P : xw_T) : Nat → Nat := P.2.2.1
def xw_cI (P : xw_T) : ClassId := P.2.2.2.1
def xw_cZ (P : xw_T) : ClassId := P.2.2.2.2.1
def xw_cR (P : xw_T) : ClassId := P.2.2.2.2.2.1
def xw_n (P : xw_T) : Nat := P.2.2.2.2.2.2.1
def xw_w (P : xw_T) : Nat := P.2.2.2.2.2.2.2
abbrev xw_ty (P : xw_T) : List (ClassId × FieldType) := [(xw_cI P, .int), (xw_cZ P, .boolean), (xw_cR P, .object xnR_RD)]
def xw_len (P : xw_T) : Nat → Nat
  | 5 => 8 * xw_w P
  | 6 => xw_n P
  | 7 => xw_n P
  | 8 => xw_n P
  | 9 => xw_n P
  | 10 => xw_n P
  | 11 => xw_n P
  | 12 => 4
  | 14 => 5
  | 15 => 8 * xw_w P
  | 16 => 8 * xw_w P
  | 17 => 8 * xw_w P
  | 101 => 32
  | 102 => 32
  | 103 => 32
  | 104 => 32
  | 105 => 32
  | 106 => 32
  | 107 => 32
  | 108 => 4
  | 109 => 5
  | 110 => 3
  | 111 => 3
  | 112 => 3
  | 113 => 3
  | 114 => 3
  | 115 => 3
  | 116 => 3
  | 117 => 3
  | _ => 0
def xw_isI : Nat → Bool
  | 5 => true
  | 6 => true
  | 7 => true
  | 8 => true
  | 9 => true
  | 12 => true
  | 14 => true
  | 15 => true
  | 16 => true
  | 17 => true
  | 101 => true
  | 103 => true
  | 104 => true
  | 105 => true
  | 106 => true
  | 108 => true
  | 109 => true
  | 110 => true
  | 111 => true
  | 112 => true
  | 113 => true
  | 114 => true
  | 115 => true
  | 116 => true
  | 117 => true
  | _ => false
def xw_isZ : Nat → Bool
  | 10 => true
  | 11 => true
  | 102 => true
  | 107 => true
  | _ => false
def xw_rd (P : xw_T) (σ : xf_T) (r : Nat) : Nat × va_E := (xw_a P (18 + r), .inr (5, [.ref (xw_a P 2), .ref (xw_a P 3), .ref (xw_a P 1), .int (σ.1 (24 + 8 * r)), .int (σ.1 (24 + 8 * r + 1)), .int (σ.1 (24 + 8 * r + 2)), .int (σ.1 (24 + 8 * r + 3)), .int (σ.1 (24 + 8 * r + 4)), .int (σ.1 (24 + 8 * r + 5)), .int (σ.1 (24 + 8 * r + 6)), .int (σ.1 (24 + 8 * r + 7))]))
def xw_W (P : xw_T) : xf_S → va_W
  | (σ, τ) => [(xw_a P 0, .inr (0, [.ref (xw_a P 1), .ref (xw_a P 2), .ref (xw_a P 3), .ref (xw_a P 4)])),
    (xw_a P 1, .inr (1, [.int (σ.1 0), .int (σ.1 1), .int (σ.1 2), .int (σ.1 3), .int (σ.1 4), .int (σ.1 5)])),
    (xw_a P 2, .inr (2, [.ref (xw_a P 1), .int (nI (xw_n P)), .int (nI (xw_w P)), .ref (xw_a P 5), .ref (xw_a P 6), .ref (xw_a P 7), .ref (xw_a P 8), .ref (xw_a P 9), .ref (xw_a P 10), .ref (xw_a P 11), .ref (xw_a P 12), .int (σ.1 6), .int (σ.1 7), .int (σ.1 8)])),
    (xw_a P 3, .inr (3, [.ref (xw_a P 2), .ref (xw_a P 1), .ref (xw_a P 13), .int (σ.1 9), .int (σ.1 10), .int (σ.1 11), .int (σ.1 12), .int (σ.1 13), .int (σ.1 14), .int (σ.1 15), .int (σ.1 16), .int (σ.1 17), .int (σ.1 18)])),
    (xw_a P 4, .inl (xw_cR P, 3, .inr (.inr (.inr (.inr (fun k => some (xw_a P (18 + k)))))))),
    (xw_a P 5, .inl (xw_cI P, 8 * xw_w P, .inl (σ.2 5))),
    (xw_a P 6, .inl (xw_cI P, xw_n P, .inl (σ.2 6))),
    (xw_a P 7, .inl (xw_cI P, xw_n P, .inl (σ.2 7))),
    (xw_a P 8, .inl (xw_cI P, xw_n P, .inl (σ.2 8))),
    (xw_a P 9, .inl (xw_cI P, xw_n P, .inl (σ.2 9))),
    (xw_a P 10, .inl (xw_cZ P, xw_n P, .inl (σ.2 10))),
    (xw_a P 11, .inl (xw_cZ P, xw_n P, .inl (σ.2 11))),
    (xw_a P 12, .inl (xw_cI P, 4, .inl (σ.2 12))),
    (xw_a P 13, .inr (4, [.ref (xw_a P 2), .ref (xw_a P 14), .int (σ.1 19), .ref (xw_a P 15), .ref (xw_a P 16), .ref (xw_a P 17), .int (σ.1 20)])),
    (xw_a P 14, .inl (xw_cI P, 5, .inl (σ.2 14))),
    (xw_a P 15, .inl (xw_cI P, 8 * xw_w P, .inl (σ.2 15))),
    (xw_a P 16, .inl (xw_cI P, 8 * xw_w P, .inl (σ.2 16))),
    (xw_a P 17, .inl (xw_cI P, 8 * xw_w P, .inl (σ.2 17))),
    xw_rd P σ 0,
    xw_rd P σ 1,
    xw_rd P σ 2,
    (xw_a P 100, .inr (6, [.int (nI (xw_n P)), .int (nI (xw_w P)), .int (τ.1 0), .int (τ.1 1), .int (τ.1 2), .ref (xw_a P 101), .ref (xw_a P 102), .ref (xw_a P 103), .ref (xw_a P 104), .ref (xw_a P 105), .ref (xw_a P 106), .ref (xw_a P 107), .ref (xw_a P 108), .int (τ.1 3), .int (τ.1 4), .int (τ.1 5), .int (τ.1 6), .int (τ.1 7), .int (τ.1 8), .int (τ.1 9), .int (τ.1 10), .int (τ.1 11), .int (τ.1 12), .ref (xw_a P 109), .ref (xw_a P 110), .ref (xw_a P 111), .ref (xw_a P 112), .ref (xw_a P 113), .ref (xw_a P 114), .ref (xw_a P 115), .ref (xw_a P 116), .ref (xw_a P 117), .int (τ.1 13), .int (τ.1 14), .int (τ.1 15), .int (τ.1 16), .int (τ.1 17), .int (τ.1 18)])),
    (xw_a P 101, .inl (xw_cI P, 32, .inl (τ.2 1))),
    (xw_a P 102, .inl (xw_cZ P, 32, .inl (τ.2 2))),
    (xw_a P 103, .inl (xw_cI P, 32, .inl (τ.2 3))),
    (xw_a P 104, .inl (xw_cI P, 32, .inl (τ.2 4))),
    (xw_a P 105, .inl (xw_cI P, 32, .inl (τ.2 5))),
    (xw_a P 106, .inl (xw_cI P, 32, .inl (τ.2 6))),
    (xw_a P 107, .inl (xw_cZ P, 32, .inl (τ.2 7))),
    (xw_a P 108, .inl (xw_cI P, 4, .inl (τ.2 8))),
    (xw_a P 109, .inl (xw_cI P, 5, .inl (τ.2 9))),
    (xw_a P 110, .inl (xw_cI P, 3, .inl (τ.2 10))),
    (xw_a P 111, .inl (xw_cI P, 3, .inl (τ.2 11))),
    (xw_a P 112, .inl (xw_cI P, 3, .inl (τ.2 12))),
    (xw_a P 113, .inl (xw_cI P, 3, .inl (τ.2 13))),
    (xw_a P 114, .inl (xw_cI P, 3, .inl (τ.2 14))),
    (xw_a P 115, .inl (xw_cI P, 3, .inl (τ.2 15))),
    (xw_a P 116, .inl (xw_cI P, 3, .inl (τ.2 16))),
    (xw_a P 117, .inl (xw_cI P, 3, .inl (τ.2 17)))]
theorem xrX_SC {P : xw_T} {σ τ : xf_T} : xf_rcv (xw_W P) (σ, τ) (xw_a P 0) xnR_SC := ⟨0, 0, _, _, rfl, rfl, rfl⟩
theorem xrX_TA {P : xw_T} {σ τ : xf_T} : xf_rcv (xw_W P) (σ, τ) (xw_a P 1) xnR_TA := ⟨1, 1, _, _, rfl, rfl, rfl⟩
theorem xrX_ST {P : xw_T} {σ τ : xf_T} : xf_rcv (xw_W P) (σ, τ) (xw_a P 2) xnR_ST := ⟨2, 2, _, _, rfl, rfl, rfl⟩
theorem xrX_WR {P : xw_T} {σ τ : xf_T} : xf_rcv (xw_W P) (σ, τ) (xw_a P 3) xnR_WR := ⟨3, 3, _, _, rfl, rfl, rfl⟩
theorem xrX_PA {P : xw_T} {σ τ : xf_T} : xf_rcv (xw_W P) (σ, τ) (xw_a P 13) xnR_PA := ⟨13, 4, _, _, rfl, rfl, rfl⟩
theorem xrM_MO {P : xw_T} {σ τ : xf_T} : xf_rcv (xw_W P) (σ, τ) (xw_a P 100) xnR_MO := ⟨21, 6, _, _, rfl, rfl, rfl⟩
theorem xw_at_rd {P : xw_T} {σ τ : xf_T} {r : Nat} (hr : r < 3) : (xw_W P (σ, τ))[18 + r]? = some (xw_rd P σ r) := by
  have h9 : r = 0 ∨ r = 1 ∨ r = 2 := by omega
  rcases h9 with rfl | rfl | rfl <;> rfl
theorem xrX_RD {P : xw_T} {σ τ : xf_T} {r : Nat} (hr : r < 3) : xf_rcv (xw_W P) (σ, τ) (xw_a P (18 + r)) xnR_RD := ⟨18 + r, 5, _, _, xw_at_rd hr, rfl, rfl⟩
section XWF
variable {X : xf_C} {l : Launch} {own : String} {cc : ByteArray} {nL fr lo : Nat} {P : xw_T} {D : va_G} {tys : List (ClassId × FieldType)} {pc : Nat} {L : List (Option Value)} {st : List Value} {σ τ : xf_T} {idx : Nat}
theorem xg_SC_tally (hX : xf_ok X l own cc nL fr lo (xw_W P) D tys) (np : Nat) (hp : pc + 3 = np) (hl : Cond.fieldLink own idx (xnT_SC 0).1 (xnT_SC 0).2.1 (xnT_SC 0).2.2.1 ∈ xf_GW) (hd : decode cc pc = .ok (.getfield idx, 3)) (kk : xf_V X np L (.ref (xw_a P 1) :: st) (σ, τ)) : xf_V X pc L (.ref (xw_a P 0) :: st) (σ, τ) := xf_get hX np hp xin_SC 0 rfl rfl 0 (by decide) hl rfl hd kk
theorem xg_SC_store (hX : xf_ok X l own cc nL fr lo (xw_W P) D tys) (np : Nat) (hp : pc + 3 = np) (hl : Cond.fieldLink own idx (xnT_SC 1).1 (xnT_SC 1).2.1 (xnT_SC 1).2.2.1 ∈ xf_GW) (hd : decode cc pc = .ok (.getfield idx, 3)) (kk : xf_V X np L (.ref (xw_a P 2) :: st) (σ, τ)) : xf_V X pc L (.ref (xw_a P 0) :: st) (σ, τ) := xf_get hX np hp xin_SC 0 rfl rfl 1 (by decide) hl rfl hd kk
theorem xg_SC_writer (hX : xf_ok X l own cc nL fr lo (xw_W P) D tys) (np : Nat) (hp : pc + 3 = np) (hl : Cond.fieldLink own idx (xnT_SC 2).1 (xnT_SC 2).2.1 (xnT_SC 2).2.2.1 ∈ xf_GW) (hd : decode cc pc = .ok (.getfield idx, 3)) (kk : xf_V X np L (.ref (xw_a P 3) :: st) (σ, τ)) : xf_V X pc L (.ref (xw_a P 0) :: st) (σ, τ) := xf_get hX np hp xin_SC 0 rfl rfl 2 (by decide) hl rfl hd kk
theorem xg_SC_readers (hX : xf_ok X l own cc nL fr lo (xw_W P) D tys) (np : Nat) (hp : pc + 3 = np) (hl : Cond.fieldLink own idx (xnT_SC 3).1 (xnT_SC 3).2.1 (xnT_SC 3).2.2.1 ∈ xf_GW) (hd : decode cc pc = .ok (.getfield idx, 3)) (kk : xf_V X np L (.ref (xw_a P 4) :: st) (σ, τ)) : xf_V X pc L (.ref (xw_a P 0) :: st) (σ, τ) := xf_get hX np hp xin_SC 0 rfl rfl 3 (by decide) hl rfl hd kk
theorem xg_TA_evictions (hX : xf_ok X l own cc nL fr lo (xw_W P) D tys) (np : Nat) (hp : pc + 3 = np) (hl : Cond.fieldLink own idx (xnT_TA 0).1 (xnT_TA 0).2.1 (xnT_TA 0).2.2.1 ∈ xf_GW) (hd : decode cc pc = .ok (.getfield idx, 3)) (kk : xf_V X np L (.int (σ.1 0) :: st) (σ, τ)) : xf_V X pc L (.ref (xw_a P 1) :: st) (σ, τ) := xf_get hX np hp xin_TA 1 rfl rfl 0 (by decide) hl rfl hd kk
theorem xp_TA_evictions (hX : xf_ok X l own cc nL fr lo (xw_W P) D tys) (np : Nat) (hp : pc + 3 = np) {v : Int32} (hl : Cond.fieldLink own idx (xnT_TA 0).1 (xnT_TA 0).2.1 (xnT_TA 0).2.2.1 ∈ xf_GW) (hd : decode cc pc = .ok (.putfield idx, 3)) (kk : xf_V X np L st (xf_I σ 0 v, τ)) : xf_V X pc L (.int v :: .ref (xw_a P 1) :: st) (σ, τ) := xf_put hX np hp xin_TA xnK_TA xnO_TA xnM_TA 1 rfl rfl 0 (by decide) hl rfl (by decide +kernel) (Nat.le_of_ble_eq_true rfl) (σ' := (xf_I σ 0 v, τ)) rfl hd kk
theorem xg_TA_moves (hX : xf_ok X l own cc nL fr lo (xw_W P) D tys) (np : Nat) (hp : pc + 3 = np) (hl : Cond.fieldLink own idx (xnT_TA 1).1 (xnT_TA 1).2.1 (xnT_TA 1).2.2.1 ∈ xf_GW) (hd : decode cc pc = .ok (.getfield idx, 3)) (kk : xf_V X np L (.int (σ.1 1) :: st) (σ, τ)) : xf_V X pc L (.ref (xw_a P 1) :: st) (σ, τ) := xf_get hX np hp xin_TA 1 rfl rfl 1 (by decide) hl rfl hd kk
theorem xp_TA_moves (hX : xf_ok X l own cc nL fr lo (xw_W P) D tys) (np : Nat) (hp : pc + 3 = np) {v : Int32} (hl : Cond.fieldLink own idx (xnT_TA 1).1 (xnT_TA 1).2.1 (xnT_TA 1).2.2.1 ∈ xf_GW) (hd : decode cc pc = .ok (.putfield idx, 3)) (kk : xf_V X np L st (xf_I σ 1 v, τ)) : xf_V X pc L (.int v :: .ref (xw_a P 1) :: st) (σ, τ) := xf_put hX np hp xin_TA xnK_TA xnO_TA xnM_TA 1 rfl rfl 1 (by decide) hl rfl (by decide +kernel) (Nat.le_of_ble_eq_true rfl) (σ' := (xf_I σ 1 v, τ)) rfl hd kk
theorem xg_TA_retries (hX : xf_ok X l own cc nL fr lo (xw_W P) D tys) (np : Nat) (hp : pc + 3 = np) (hl : Cond.fieldLink own idx (xnT_TA 2).1 (xnT_TA 2).2.1 (xnT_TA 2).2.2.1 ∈ xf_GW) (hd : decode cc pc = .ok (.getfield idx, 3)) (kk : xf_V X np L (.int (σ.1 2) :: st) (σ, τ)) : xf_V X pc L (.ref (xw_a P 1) :: st) (σ, τ) := xf_get hX np hp xin_TA 1 rfl rfl 2 (by decide) hl rfl hd kk
theorem xp_TA_retries (hX : xf_ok X l own cc nL fr lo (xw_W P) D tys) (np : Nat) (hp : pc + 3 = np) {v : Int32} (hl : Cond.fieldLink own idx (xnT_TA 2).1 (xnT_TA 2).2.1 (xnT_TA 2).2.2.1 ∈ xf_GW) (hd : decode cc pc = .ok (.putfield idx, 3)) (kk : xf_V X np L st (xf_I σ 2 v, τ)) : xf_V X pc L (.int v :: .ref (xw_a P 1) :: st) (σ, τ) := xf_put hX np hp xin_TA xnK_TA xnO_TA xnM_TA 1 rfl rfl 2 (by decide) hl rfl (by decide +kernel) (Nat.le_of_ble_eq_true rfl) (σ' := (xf_I σ 2 v, τ)) rfl hd kk
theorem xg_TA_waits (hX : xf_ok X l own cc nL fr lo (xw_W P) D tys) (np : Nat) (hp : pc + 3 = np) (hl : Cond.fieldLink own idx (xnT_TA 3).1 (xnT_TA 3).2.1 (xnT_TA 3).2.2.1 ∈ xf_GW) (hd : decode cc pc = .ok (.getfield idx, 3)) (kk : xf_V X np L (.int (σ.1 3) :: st) (σ, τ)) : xf_V X pc L (.ref (xw_a P 1) :: st) (σ, τ) := xf_get hX np hp xin_TA 1 rfl rfl 3 (by decide) hl rfl hd kk
theorem xp_TA_waits (hX : xf_ok X l own cc nL fr lo (xw_W P) D tys) (np : Nat) (hp : pc + 3 = np) {v : Int32} (hl : Cond.fieldLink own idx (xnT_TA 3).1 (xnT_TA 3).2.1 (xnT_TA 3).2.2.1 ∈ xf_GW) (hd : decode cc pc = .ok (.putfield idx, 3)) (kk : xf_V X np L st (xf_I σ 3 v, τ)) : xf_V X pc L (.int v :: .ref (xw_a P 1) :: st) (σ, τ) := xf_put hX np hp xin_TA xnK_TA xnO_TA xnM_TA 1 rfl rfl 3 (by decide) hl rfl (by decide +kernel) (Nat.le_of_ble_eq_true rfl) (σ' := (xf_I σ 3 v, τ)) rfl hd kk
theorem xg_TA_nearMisses (hX : xf_ok X l own cc nL fr lo (xw_W P) D tys) (np : Nat) (hp : pc + 3 = np) (hl : Cond.fieldLink own idx (xnT_TA 4).1 (xnT_TA 4).2.1 (xnT_TA 4).2.2.1 ∈ xf_GW) (hd : decode cc pc = .ok (.getfield idx, 3)) (kk : xf_V X np L (.int (σ.1 4) :: st) (σ, τ)) : xf_V X pc L (.ref (xw_a P 1) :: st) (σ, τ) := xf_get hX np hp xin_TA 1 rfl rfl 4 (by decide) hl rfl hd kk
theorem xp_TA_nearMisses (hX : xf_ok X l own cc nL fr lo (xw_W P) D tys) (np : Nat) (hp : pc + 3 = np) {v : Int32} (hl : Cond.fieldLink own idx (xnT_TA 4).1 (xnT_TA 4).2.1 (xnT_TA 4).2.2.1 ∈ xf_GW) (hd : decode cc pc = .ok (.putfield idx, 3)) (kk : xf_V X np L st (xf_I σ 4 v, τ)) : xf_V X pc L (.int v :: .ref (xw_a P 1) :: st) (σ, τ) := xf_put hX np hp xin_TA xnK_TA xnO_TA xnM_TA 1 rfl rfl 4 (by decide) hl rfl (by decide +kernel) (Nat.le_of_ble_eq_true rfl) (σ' := (xf_I σ 4 v, τ)) rfl hd kk
theorem xg_TA_expiredRemoved (hX : xf_ok X l own cc nL fr lo (xw_W P) D tys) (np : Nat) (hp : pc + 3 = np) (hl : Cond.fieldLink own idx (xnT_TA 5).1 (xnT_TA 5).2.1 (xnT_TA 5).2.2.1 ∈ xf_GW) (hd : decode cc pc = .ok (.getfield idx, 3)) (kk : xf_V X np L (.int (σ.1 5) :: st) (σ, τ)) : xf_V X pc L (.ref (xw_a P 1) :: st) (σ, τ) := xf_get hX np hp xin_TA 1 rfl rfl 5 (by decide) hl rfl hd kk
theorem xp_TA_expiredRemoved (hX : xf_ok X l own cc nL fr lo (xw_W P) D tys) (np : Nat) (hp : pc + 3 = np) {v : Int32} (hl : Cond.fieldLink own idx (xnT_TA 5).1 (xnT_TA 5).2.1 (xnT_TA 5).2.2.1 ∈ xf_GW) (hd : decode cc pc = .ok (.putfield idx, 3)) (kk : xf_V X np L st (xf_I σ 5 v, τ)) : xf_V X pc L (.int v :: .ref (xw_a P 1) :: st) (σ, τ) := xf_put hX np hp xin_TA xnK_TA xnO_TA xnM_TA 1 rfl rfl 5 (by decide) hl rfl (by decide +kernel) (Nat.le_of_ble_eq_true rfl) (σ' := (xf_I σ 5 v, τ)) rfl hd kk
theorem xg_ST_tally (hX : xf_ok X l own cc nL fr lo (xw_W P) D tys) (np : Nat) (hp : pc + 3 = np) (hl : Cond.fieldLink own idx (xnT_ST 0).1 (xnT_ST 0).2.1 (xnT_ST 0).2.2.1 ∈ xf_GW) (hd : decode cc pc = .ok (.getfield idx, 3)) (kk : xf_V X np L (.ref (xw_a P 1) :: st) (σ, τ)) : xf_V X pc L (.ref (xw_a P 2) :: st) (σ, τ) := xf_get hX np hp xin_ST 2 rfl rfl 0 (by decide) hl rfl hd kk
theorem xg_ST_capacity (hX : xf_ok X l own cc nL fr lo (xw_W P) D tys) (np : Nat) (hp : pc + 3 = np) (hl : Cond.fieldLink own idx (xnT_ST 1).1 (xnT_ST 1).2.1 (xnT_ST 1).2.2.1 ∈ xf_GW) (hd : decode cc pc = .ok (.getfield idx, 3)) (kk : xf_V X np L (.int (nI (xw_n P)) :: st) (σ, τ)) : xf_V X pc L (.ref (xw_a P 2) :: st) (σ, τ) := xf_get hX np hp xin_ST 2 rfl rfl 1 (by decide) hl rfl hd kk
theorem xg_ST_ways (hX : xf_ok X l own cc nL fr lo (xw_W P) D tys) (np : Nat) (hp : pc + 3 = np) (hl : Cond.fieldLink own idx (xnT_ST 2).1 (xnT_ST 2).2.1 (xnT_ST 2).2.2.1 ∈ xf_GW) (hd : decode cc pc = .ok (.getfield idx, 3)) (kk : xf_V X np L (.int (nI (xw_w P)) :: st) (σ, τ)) : xf_V X pc L (.ref (xw_a P 2) :: st) (σ, τ) := xf_get hX np hp xin_ST 2 rfl rfl 2 (by decide) hl rfl hd kk
theorem xg_ST_places (hX : xf_ok X l own cc nL fr lo (xw_W P) D tys) (np : Nat) (hp : pc + 3 = np) (hl : Cond.fieldLink own idx (xnT_ST 3).1 (xnT_ST 3).2.1 (xnT_ST 3).2.2.1 ∈ xf_GW) (hd : decode cc pc = .ok (.getfield idx, 3)) (kk : xf_V X np L (.ref (xw_a P 5) :: st) (σ, τ)) : xf_V X pc L (.ref (xw_a P 2) :: st) (σ, τ) := xf_get hX np hp xin_ST 2 rfl rfl 3 (by decide) hl rfl hd kk
theorem xg_ST_keys (hX : xf_ok X l own cc nL fr lo (xw_W P) D tys) (np : Nat) (hp : pc + 3 = np) (hl : Cond.fieldLink own idx (xnT_ST 4).1 (xnT_ST 4).2.1 (xnT_ST 4).2.2.1 ∈ xf_GW) (hd : decode cc pc = .ok (.getfield idx, 3)) (kk : xf_V X np L (.ref (xw_a P 6) :: st) (σ, τ)) : xf_V X pc L (.ref (xw_a P 2) :: st) (σ, τ) := xf_get hX np hp xin_ST 2 rfl rfl 4 (by decide) hl rfl hd kk
theorem xg_ST_values (hX : xf_ok X l own cc nL fr lo (xw_W P) D tys) (np : Nat) (hp : pc + 3 = np) (hl : Cond.fieldLink own idx (xnT_ST 5).1 (xnT_ST 5).2.1 (xnT_ST 5).2.2.1 ∈ xf_GW) (hd : decode cc pc = .ok (.getfield idx, 3)) (kk : xf_V X np L (.ref (xw_a P 7) :: st) (σ, τ)) : xf_V X pc L (.ref (xw_a P 2) :: st) (σ, τ) := xf_get hX np hp xin_ST 2 rfl rfl 5 (by decide) hl rfl hd kk
theorem xg_ST_tokens (hX : xf_ok X l own cc nL fr lo (xw_W P) D tys) (np : Nat) (hp : pc + 3 = np) (hl : Cond.fieldLink own idx (xnT_ST 6).1 (xnT_ST 6).2.1 (xnT_ST 6).2.2.1 ∈ xf_GW) (hd : decode cc pc = .ok (.getfield idx, 3)) (kk : xf_V X np L (.ref (xw_a P 8) :: st) (σ, τ)) : xf_V X pc L (.ref (xw_a P 2) :: st) (σ, τ) := xf_get hX np hp xin_ST 2 rfl rfl 6 (by decide) hl rfl hd kk
theorem xg_ST_expiries (hX : xf_ok X l own cc nL fr lo (xw_W P) D tys) (np : Nat) (hp : pc + 3 = np) (hl : Cond.fieldLink own idx (xnT_ST 7).1 (xnT_ST 7).2.1 (xnT_ST 7).2.2.1 ∈ xf_GW) (hd : decode cc pc = .ok (.getfield idx, 3)) (kk : xf_V X np L (.ref (xw_a P 9) :: st) (σ, τ)) : xf_V X pc L (.ref (xw_a P 2) :: st) (σ, τ) := xf_get hX np hp xin_ST 2 rfl rfl 7 (by decide) hl rfl hd kk
theorem xg_ST_bits (hX : xf_ok X l own cc nL fr lo (xw_W P) D tys) (np : Nat) (hp : pc + 3 = np) (hl : Cond.fieldLink own idx (xnT_ST 8).1 (xnT_ST 8).2.1 (xnT_ST 8).2.2.1 ∈ xf_GW) (hd : decode cc pc = .ok (.getfield idx, 3)) (kk : xf_V X np L (.ref (xw_a P 10) :: st) (σ, τ)) : xf_V X pc L (.ref (xw_a P 2) :: st) (σ, τ) := xf_get hX np hp xin_ST 2 rfl rfl 8 (by decide) hl rfl hd kk
theorem xg_ST_usedFlags (hX : xf_ok X l own cc nL fr lo (xw_W P) D tys) (np : Nat) (hp : pc + 3 = np) (hl : Cond.fieldLink own idx (xnT_ST 9).1 (xnT_ST 9).2.1 (xnT_ST 9).2.2.1 ∈ xf_GW) (hd : decode cc pc = .ok (.getfield idx, 3)) (kk : xf_V X np L (.ref (xw_a P 11) :: st) (σ, τ)) : xf_V X pc L (.ref (xw_a P 2) :: st) (σ, τ) := xf_get hX np hp xin_ST 2 rfl rfl 9 (by decide) hl rfl hd kk
theorem xg_ST_versions (hX : xf_ok X l own cc nL fr lo (xw_W P) D tys) (np : Nat) (hp : pc + 3 = np) (hl : Cond.fieldLink own idx (xnT_ST 10).1 (xnT_ST 10).2.1 (xnT_ST 10).2.2.1 ∈ xf_GW) (hd : decode cc pc = .ok (.getfield idx, 3)) (kk : xf_V X np L (.ref (xw_a P 12) :: st) (σ, τ)) : xf_V X pc L (.ref (xw_a P 2) :: st) (σ, τ) := xf_get hX np hp xin_ST 2 rfl rfl 10 (by decide) hl rfl hd kk
theorem xg_ST_usedCount (hX : xf_ok X l own cc nL fr lo (xw_W P) D tys) (np : Nat) (hp : pc + 3 = np) (hl : Cond.fieldLink own idx (xnT_ST 11).1 (xnT_ST 11).2.1 (xnT_ST 11).2.2.1 ∈ xf_GW) (hd : decode cc pc = .ok (.getfield idx, 3)) (kk : xf_V X np L (.int (σ.1 6) :: st) (σ, τ)) : xf_V X pc L (.ref (xw_a P 2) :: st) (σ, τ) := xf_get hX np hp xin_ST 2 rfl rfl 11 (by decide) hl rfl hd kk
theorem xp_ST_usedCount (hX : xf_ok X l own cc nL fr lo (xw_W P) D tys) (np : Nat) (hp : pc + 3 = np) {v : Int32} (hl : Cond.fieldLink own idx (xnT_ST 11).1 (xnT_ST 11).2.1 (xnT_ST 11).2.2.1 ∈ xf_GW) (hd : decode cc pc = .ok (.putfield idx, 3)) (kk : xf_V X np L st (xf_I σ 6 v, τ)) : xf_V X pc L (.int v :: .ref (xw_a P 2) :: st) (σ, τ) := xf_put hX np hp xin_ST xnK_ST xnO_ST xnM_ST 2 rfl rfl 11 (by decide) hl rfl (by decide +kernel) (Nat.le_of_ble_eq_true rfl) (σ' := (xf_I σ 6 v, τ)) rfl hd kk
theorem xg_ST_time (hX : xf_ok X l own cc nL fr lo (xw_W P) D tys) (np : Nat) (hp : pc + 3 = np) (hl : Cond.fieldLink own idx (xnT_ST 12).1 (xnT_ST 12).2.1 (xnT_ST 12).2.2.1 ∈ xf_GW) (hd : decode cc pc = .ok (.getfield idx, 3)) (kk : xf_V X np L (.int (σ.1 7) :: st) (σ, τ)) : xf_V X pc L (.ref (xw_a P 2) :: st) (σ, τ) := xf_get hX np hp xin_ST 2 rfl rfl 12 (by decide) hl rfl hd kk
theorem xp_ST_time (hX : xf_ok X l own cc nL fr lo (xw_W P) D tys) (np : Nat) (hp : pc + 3 = np) {v : Int32} (hl : Cond.fieldLink own idx (xnT_ST 12).1 (xnT_ST 12).2.1 (xnT_ST 12).2.2.1 ∈ xf_GW) (hd : decode cc pc = .ok (.putfield idx, 3)) (kk : xf_V X np L st (xf_I σ 7 v, τ)) : xf_V X pc L (.int v :: .ref (xw_a P 2) :: st) (σ, τ) := xf_put hX np hp xin_ST xnK_ST xnO_ST xnM_ST 2 rfl rfl 12 (by decide) hl rfl (by decide +kernel) (Nat.le_of_ble_eq_true rfl) (σ' := (xf_I σ 7 v, τ)) rfl hd kk
theorem xg_ST_latestToken (hX : xf_ok X l own cc nL fr lo (xw_W P) D tys) (np : Nat) (hp : pc + 3 = np) (hl : Cond.fieldLink own idx (xnT_ST 13).1 (xnT_ST 13).2.1 (xnT_ST 13).2.2.1 ∈ xf_GW) (hd : decode cc pc = .ok (.getfield idx, 3)) (kk : xf_V X np L (.int (σ.1 8) :: st) (σ, τ)) : xf_V X pc L (.ref (xw_a P 2) :: st) (σ, τ) := xf_get hX np hp xin_ST 2 rfl rfl 13 (by decide) hl rfl hd kk
theorem xp_ST_latestToken (hX : xf_ok X l own cc nL fr lo (xw_W P) D tys) (np : Nat) (hp : pc + 3 = np) {v : Int32} (hl : Cond.fieldLink own idx (xnT_ST 13).1 (xnT_ST 13).2.1 (xnT_ST 13).2.2.1 ∈ xf_GW) (hd : decode cc pc = .ok (.putfield idx, 3)) (kk : xf_V X np L st (xf_I σ 8 v, τ)) : xf_V X pc L (.int v :: .ref (xw_a P 2) :: st) (σ, τ) := xf_put hX np hp xin_ST xnK_ST xnO_ST xnM_ST 2 rfl rfl 13 (by decide) hl rfl (by decide +kernel) (Nat.le_of_ble_eq_true rfl) (σ' := (xf_I σ 8 v, τ)) rfl hd kk
theorem xg_WR_store (hX : xf_ok X l own cc nL fr lo (xw_W P) D tys) (np : Nat) (hp : pc + 3 = np) (hl : Cond.fieldLink own idx (xnT_WR 0).1 (xnT_WR 0).2.1 (xnT_WR 0).2.2.1 ∈ xf_GW) (hd : decode cc pc = .ok (.getfield idx, 3)) (kk : xf_V X np L (.ref (xw_a P 2) :: st) (σ, τ)) : xf_V X pc L (.ref (xw_a P 3) :: st) (σ, τ) := xf_get hX np hp xin_WR 3 rfl rfl 0 (by decide) hl rfl hd kk
theorem xg_WR_tally (hX : xf_ok X l own cc nL fr lo (xw_W P) D tys) (np : Nat) (hp : pc + 3 = np) (hl : Cond.fieldLink own idx (xnT_WR 1).1 (xnT_WR 1).2.1 (xnT_WR 1).2.2.1 ∈ xf_GW) (hd : decode cc pc = .ok (.getfield idx, 3)) (kk : xf_V X np L (.ref (xw_a P 1) :: st) (σ, τ)) : xf_V X pc L (.ref (xw_a P 3) :: st) (σ, τ) := xf_get hX np hp xin_WR 3 rfl rfl 1 (by decide) hl rfl hd kk
theorem xg_WR_path (hX : xf_ok X l own cc nL fr lo (xw_W P) D tys) (np : Nat) (hp : pc + 3 = np) (hl : Cond.fieldLink own idx (xnT_WR 2).1 (xnT_WR 2).2.1 (xnT_WR 2).2.2.1 ∈ xf_GW) (hd : decode cc pc = .ok (.getfield idx, 3)) (kk : xf_V X np L (.ref (xw_a P 13) :: st) (σ, τ)) : xf_V X pc L (.ref (xw_a P 3) :: st) (σ, τ) := xf_get hX np hp xin_WR 3 rfl rfl 2 (by decide) hl rfl hd kk
theorem xg_WR_outcome (hX : xf_ok X l own cc nL fr lo (xw_W P) D tys) (np : Nat) (hp : pc + 3 = np) (hl : Cond.fieldLink own idx (xnT_WR 3).1 (xnT_WR 3).2.1 (xnT_WR 3).2.2.1 ∈ xf_GW) (hd : decode cc pc = .ok (.getfield idx, 3)) (kk : xf_V X np L (.int (σ.1 9) :: st) (σ, τ)) : xf_V X pc L (.ref (xw_a P 3) :: st) (σ, τ) := xf_get hX np hp xin_WR 3 rfl rfl 3 (by decide) hl rfl hd kk
theorem xp_WR_outcome (hX : xf_ok X l own cc nL fr lo (xw_W P) D tys) (np : Nat) (hp : pc + 3 = np) {v : Int32} (hl : Cond.fieldLink own idx (xnT_WR 3).1 (xnT_WR 3).2.1 (xnT_WR 3).2.2.1 ∈ xf_GW) (hd : decode cc pc = .ok (.putfield idx, 3)) (kk : xf_V X np L st (xf_I σ 9 v, τ)) : xf_V X pc L (.int v :: .ref (xw_a P 3) :: st) (σ, τ) := xf_put hX np hp xin_WR xnK_WR xnO_WR xnM_WR 3 rfl rfl 3 (by decide) hl rfl (by decide +kernel) (Nat.le_of_ble_eq_true rfl) (σ' := (xf_I σ 9 v, τ)) rfl hd kk
theorem xg_WR_hand (hX : xf_ok X l own cc nL fr lo (xw_W P) D tys) (np : Nat) (hp : pc + 3 = np) (hl : Cond.fieldLink own idx (xnT_WR 4).1 (xnT_WR 4).2.1 (xnT_WR 4).2.2.1 ∈ xf_GW) (hd : decode cc pc = .ok (.getfield idx, 3)) (kk : xf_V X np L (.int (σ.1 10) :: st) (σ, τ)) : xf_V X pc L (.ref (xw_a P 3) :: st) (σ, τ) := xf_get hX np hp xin_WR 3 rfl rfl 4 (by decide) hl rfl hd kk
theorem xp_WR_hand (hX : xf_ok X l own cc nL fr lo (xw_W P) D tys) (np : Nat) (hp : pc + 3 = np) {v : Int32} (hl : Cond.fieldLink own idx (xnT_WR 4).1 (xnT_WR 4).2.1 (xnT_WR 4).2.2.1 ∈ xf_GW) (hd : decode cc pc = .ok (.putfield idx, 3)) (kk : xf_V X np L st (xf_I σ 10 v, τ)) : xf_V X pc L (.int v :: .ref (xw_a P 3) :: st) (σ, τ) := xf_put hX np hp xin_WR xnK_WR xnO_WR xnM_WR 3 rfl rfl 4 (by decide) hl rfl (by decide +kernel) (Nat.le_of_ble_eq_true rfl) (σ' := (xf_I σ 10 v, τ)) rfl hd kk
theorem xg_WR_kind (hX : xf_ok X l own cc nL fr lo (xw_W P) D tys) (np : Nat) (hp : pc + 3 = np) (hl : Cond.fieldLink own idx (xnT_WR 5).1 (xnT_WR 5).2.1 (xnT_WR 5).2.2.1 ∈ xf_GW) (hd : decode cc pc = .ok (.getfield idx, 3)) (kk : xf_V X np L (.int (σ.1 11) :: st) (σ, τ)) : xf_V X pc L (.ref (xw_a P 3) :: st) (σ, τ) := xf_get hX np hp xin_WR 3 rfl rfl 5 (by decide) hl rfl hd kk
theorem xp_WR_kind (hX : xf_ok X l own cc nL fr lo (xw_W P) D tys) (np : Nat) (hp : pc + 3 = np) {v : Int32} (hl : Cond.fieldLink own idx (xnT_WR 5).1 (xnT_WR 5).2.1 (xnT_WR 5).2.2.1 ∈ xf_GW) (hd : decode cc pc = .ok (.putfield idx, 3)) (kk : xf_V X np L st (xf_I σ 11 v, τ)) : xf_V X pc L (.int v :: .ref (xw_a P 3) :: st) (σ, τ) := xf_put hX np hp xin_WR xnK_WR xnO_WR xnM_WR 3 rfl rfl 5 (by decide) hl rfl (by decide +kernel) (Nat.le_of_ble_eq_true rfl) (σ' := (xf_I σ 11 v, τ)) rfl hd kk
theorem xg_WR_key (hX : xf_ok X l own cc nL fr lo (xw_W P) D tys) (np : Nat) (hp : pc + 3 = np) (hl : Cond.fieldLink own idx (xnT_WR 6).1 (xnT_WR 6).2.1 (xnT_WR 6).2.2.1 ∈ xf_GW) (hd : decode cc pc = .ok (.getfield idx, 3)) (kk : xf_V X np L (.int (σ.1 12) :: st) (σ, τ)) : xf_V X pc L (.ref (xw_a P 3) :: st) (σ, τ) := xf_get hX np hp xin_WR 3 rfl rfl 6 (by decide) hl rfl hd kk
theorem xp_WR_key (hX : xf_ok X l own cc nL fr lo (xw_W P) D tys) (np : Nat) (hp : pc + 3 = np) {v : Int32} (hl : Cond.fieldLink own idx (xnT_WR 6).1 (xnT_WR 6).2.1 (xnT_WR 6).2.2.1 ∈ xf_GW) (hd : decode cc pc = .ok (.putfield idx, 3)) (kk : xf_V X np L st (xf_I σ 12 v, τ)) : xf_V X pc L (.int v :: .ref (xw_a P 3) :: st) (σ, τ) := xf_put hX np hp xin_WR xnK_WR xnO_WR xnM_WR 3 rfl rfl 6 (by decide) hl rfl (by decide +kernel) (Nat.le_of_ble_eq_true rfl) (σ' := (xf_I σ 12 v, τ)) rfl hd kk
theorem xg_WR_newValue (hX : xf_ok X l own cc nL fr lo (xw_W P) D tys) (np : Nat) (hp : pc + 3 = np) (hl : Cond.fieldLink own idx (xnT_WR 7).1 (xnT_WR 7).2.1 (xnT_WR 7).2.2.1 ∈ xf_GW) (hd : decode cc pc = .ok (.getfield idx, 3)) (kk : xf_V X np L (.int (σ.1 13) :: st) (σ, τ)) : xf_V X pc L (.ref (xw_a P 3) :: st) (σ, τ) := xf_get hX np hp xin_WR 3 rfl rfl 7 (by decide) hl rfl hd kk
theorem xp_WR_newValue (hX : xf_ok X l own cc nL fr lo (xw_W P) D tys) (np : Nat) (hp : pc + 3 = np) {v : Int32} (hl : Cond.fieldLink own idx (xnT_WR 7).1 (xnT_WR 7).2.1 (xnT_WR 7).2.2.1 ∈ xf_GW) (hd : decode cc pc = .ok (.putfield idx, 3)) (kk : xf_V X np L st (xf_I σ 13 v, τ)) : xf_V X pc L (.int v :: .ref (xw_a P 3) :: st) (σ, τ) := xf_put hX np hp xin_WR xnK_WR xnO_WR xnM_WR 3 rfl rfl 7 (by decide) hl rfl (by decide +kernel) (Nat.le_of_ble_eq_true rfl) (σ' := (xf_I σ 13 v, τ)) rfl hd kk
theorem xg_WR_life (hX : xf_ok X l own cc nL fr lo (xw_W P) D tys) (np : Nat) (hp : pc + 3 = np) (hl : Cond.fieldLink own idx (xnT_WR 8).1 (xnT_WR 8).2.1 (xnT_WR 8).2.2.1 ∈ xf_GW) (hd : decode cc pc = .ok (.getfield idx, 3)) (kk : xf_V X np L (.int (σ.1 14) :: st) (σ, τ)) : xf_V X pc L (.ref (xw_a P 3) :: st) (σ, τ) := xf_get hX np hp xin_WR 3 rfl rfl 8 (by decide) hl rfl hd kk
theorem xp_WR_life (hX : xf_ok X l own cc nL fr lo (xw_W P) D tys) (np : Nat) (hp : pc + 3 = np) {v : Int32} (hl : Cond.fieldLink own idx (xnT_WR 8).1 (xnT_WR 8).2.1 (xnT_WR 8).2.2.1 ∈ xf_GW) (hd : decode cc pc = .ok (.putfield idx, 3)) (kk : xf_V X np L st (xf_I σ 14 v, τ)) : xf_V X pc L (.int v :: .ref (xw_a P 3) :: st) (σ, τ) := xf_put hX np hp xin_WR xnK_WR xnO_WR xnM_WR 3 rfl rfl 8 (by decide) hl rfl (by decide +kernel) (Nat.le_of_ble_eq_true rfl) (σ' := (xf_I σ 14 v, τ)) rfl hd kk
theorem xg_WR_knownToken (hX : xf_ok X l own cc nL fr lo (xw_W P) D tys) (np : Nat) (hp : pc + 3 = np) (hl : Cond.fieldLink own idx (xnT_WR 9).1 (xnT_WR 9).2.1 (xnT_WR 9).2.2.1 ∈ xf_GW) (hd : decode cc pc = .ok (.getfield idx, 3)) (kk : xf_V X np L (.int (σ.1 15) :: st) (σ, τ)) : xf_V X pc L (.ref (xw_a P 3) :: st) (σ, τ) := xf_get hX np hp xin_WR 3 rfl rfl 9 (by decide) hl rfl hd kk
theorem xp_WR_knownToken (hX : xf_ok X l own cc nL fr lo (xw_W P) D tys) (np : Nat) (hp : pc + 3 = np) {v : Int32} (hl : Cond.fieldLink own idx (xnT_WR 9).1 (xnT_WR 9).2.1 (xnT_WR 9).2.2.1 ∈ xf_GW) (hd : decode cc pc = .ok (.putfield idx, 3)) (kk : xf_V X np L st (xf_I σ 15 v, τ)) : xf_V X pc L (.int v :: .ref (xw_a P 3) :: st) (σ, τ) := xf_put hX np hp xin_WR xnK_WR xnO_WR xnM_WR 3 rfl rfl 9 (by decide) hl rfl (by decide +kernel) (Nat.le_of_ble_eq_true rfl) (σ' := (xf_I σ 15 v, τ)) rfl hd kk
theorem xg_WR_next (hX : xf_ok X l own cc nL fr lo (xw_W P) D tys) (np : Nat) (hp : pc + 3 = np) (hl : Cond.fieldLink own idx (xnT_WR 10).1 (xnT_WR 10).2.1 (xnT_WR 10).2.2.1 ∈ xf_GW) (hd : decode cc pc = .ok (.getfield idx, 3)) (kk : xf_V X np L (.int (σ.1 16) :: st) (σ, τ)) : xf_V X pc L (.ref (xw_a P 3) :: st) (σ, τ) := xf_get hX np hp xin_WR 3 rfl rfl 10 (by decide) hl rfl hd kk
theorem xp_WR_next (hX : xf_ok X l own cc nL fr lo (xw_W P) D tys) (np : Nat) (hp : pc + 3 = np) {v : Int32} (hl : Cond.fieldLink own idx (xnT_WR 10).1 (xnT_WR 10).2.1 (xnT_WR 10).2.2.1 ∈ xf_GW) (hd : decode cc pc = .ok (.putfield idx, 3)) (kk : xf_V X np L st (xf_I σ 16 v, τ)) : xf_V X pc L (.int v :: .ref (xw_a P 3) :: st) (σ, τ) := xf_put hX np hp xin_WR xnK_WR xnO_WR xnM_WR 3 rfl rfl 10 (by decide) hl rfl (by decide +kernel) (Nat.le_of_ble_eq_true rfl) (σ' := (xf_I σ 16 v, τ)) rfl hd kk
theorem xg_WR_changed (hX : xf_ok X l own cc nL fr lo (xw_W P) D tys) (np : Nat) (hp : pc + 3 = np) (hl : Cond.fieldLink own idx (xnT_WR 11).1 (xnT_WR 11).2.1 (xnT_WR 11).2.2.1 ∈ xf_GW) (hd : decode cc pc = .ok (.getfield idx, 3)) (kk : xf_V X np L (.int (σ.1 17) :: st) (σ, τ)) : xf_V X pc L (.ref (xw_a P 3) :: st) (σ, τ) := xf_get hX np hp xin_WR 3 rfl rfl 11 (by decide) hl rfl hd kk
theorem xp_WR_changed (hX : xf_ok X l own cc nL fr lo (xw_W P) D tys) (np : Nat) (hp : pc + 3 = np) {v : Int32} (hl : Cond.fieldLink own idx (xnT_WR 11).1 (xnT_WR 11).2.1 (xnT_WR 11).2.2.1 ∈ xf_GW) (hd : decode cc pc = .ok (.putfield idx, 3)) (kk : xf_V X np L st (xf_I σ 17 v, τ)) : xf_V X pc L (.int v :: .ref (xw_a P 3) :: st) (σ, τ) := xf_put hX np hp xin_WR xnK_WR xnO_WR xnM_WR 3 rfl rfl 11 (by decide) hl rfl (by decide +kernel) (Nat.le_of_ble_eq_true rfl) (σ' := (xf_I σ 17 v, τ)) rfl hd kk
theorem xg_WR_moving (hX : xf_ok X l own cc nL fr lo (xw_W P) D tys) (np : Nat) (hp : pc + 3 = np) (hl : Cond.fieldLink own idx (xnT_WR 12).1 (xnT_WR 12).2.1 (xnT_WR 12).2.2.1 ∈ xf_GW) (hd : decode cc pc = .ok (.getfield idx, 3)) (kk : xf_V X np L (.int (σ.1 18) :: st) (σ, τ)) : xf_V X pc L (.ref (xw_a P 3) :: st) (σ, τ) := xf_get hX np hp xin_WR 3 rfl rfl 12 (by decide) hl rfl hd kk
theorem xp_WR_moving (hX : xf_ok X l own cc nL fr lo (xw_W P) D tys) (np : Nat) (hp : pc + 3 = np) {v : Int32} (hl : Cond.fieldLink own idx (xnT_WR 12).1 (xnT_WR 12).2.1 (xnT_WR 12).2.2.1 ∈ xf_GW) (hd : decode cc pc = .ok (.putfield idx, 3)) (kk : xf_V X np L st (xf_I σ 18 v, τ)) : xf_V X pc L (.int v :: .ref (xw_a P 3) :: st) (σ, τ) := xf_put hX np hp xin_WR xnK_WR xnO_WR xnM_WR 3 rfl rfl 12 (by decide) hl rfl (by decide +kernel) (Nat.le_of_ble_eq_true rfl) (σ' := (xf_I σ 18 v, τ)) rfl hd kk
theorem xg_PA_store (hX : xf_ok X l own cc nL fr lo (xw_W P) D tys) (np : Nat) (hp : pc + 3 = np) (hl : Cond.fieldLink own idx (xnT_PA 0).1 (xnT_PA 0).2.1 (xnT_PA 0).2.2.1 ∈ xf_GW) (hd : decode cc pc = .ok (.getfield idx, 3)) (kk : xf_V X np L (.ref (xw_a P 2) :: st) (σ, τ)) : xf_V X pc L (.ref (xw_a P 13) :: st) (σ, τ) := xf_get hX np hp xin_PA 13 rfl rfl 0 (by decide) hl rfl hd kk
theorem xg_PA_stops (hX : xf_ok X l own cc nL fr lo (xw_W P) D tys) (np : Nat) (hp : pc + 3 = np) (hl : Cond.fieldLink own idx (xnT_PA 1).1 (xnT_PA 1).2.1 (xnT_PA 1).2.2.1 ∈ xf_GW) (hd : decode cc pc = .ok (.getfield idx, 3)) (kk : xf_V X np L (.ref (xw_a P 14) :: st) (σ, τ)) : xf_V X pc L (.ref (xw_a P 13) :: st) (σ, τ) := xf_get hX np hp xin_PA 13 rfl rfl 1 (by decide) hl rfl hd kk
theorem xg_PA_length (hX : xf_ok X l own cc nL fr lo (xw_W P) D tys) (np : Nat) (hp : pc + 3 = np) (hl : Cond.fieldLink own idx (xnT_PA 2).1 (xnT_PA 2).2.1 (xnT_PA 2).2.2.1 ∈ xf_GW) (hd : decode cc pc = .ok (.getfield idx, 3)) (kk : xf_V X np L (.int (σ.1 19) :: st) (σ, τ)) : xf_V X pc L (.ref (xw_a P 13) :: st) (σ, τ) := xf_get hX np hp xin_PA 13 rfl rfl 2 (by decide) hl rfl hd kk
theorem xp_PA_length (hX : xf_ok X l own cc nL fr lo (xw_W P) D tys) (np : Nat) (hp : pc + 3 = np) {v : Int32} (hl : Cond.fieldLink own idx (xnT_PA 2).1 (xnT_PA 2).2.1 (xnT_PA 2).2.2.1 ∈ xf_GW) (hd : decode cc pc = .ok (.putfield idx, 3)) (kk : xf_V X np L st (xf_I σ 19 v, τ)) : xf_V X pc L (.int v :: .ref (xw_a P 13) :: st) (σ, τ) := xf_put hX np hp xin_PA xnK_PA xnO_PA xnM_PA 13 rfl rfl 2 (by decide) hl rfl (by decide +kernel) (Nat.le_of_ble_eq_true rfl) (σ' := (xf_I σ 19 v, τ)) rfl hd kk
theorem xg_PA_queue (hX : xf_ok X l own cc nL fr lo (xw_W P) D tys) (np : Nat) (hp : pc + 3 = np) (hl : Cond.fieldLink own idx (xnT_PA 3).1 (xnT_PA 3).2.1 (xnT_PA 3).2.2.1 ∈ xf_GW) (hd : decode cc pc = .ok (.getfield idx, 3)) (kk : xf_V X np L (.ref (xw_a P 15) :: st) (σ, τ)) : xf_V X pc L (.ref (xw_a P 13) :: st) (σ, τ) := xf_get hX np hp xin_PA 13 rfl rfl 3 (by decide) hl rfl hd kk
theorem xg_PA_before (hX : xf_ok X l own cc nL fr lo (xw_W P) D tys) (np : Nat) (hp : pc + 3 = np) (hl : Cond.fieldLink own idx (xnT_PA 4).1 (xnT_PA 4).2.1 (xnT_PA 4).2.2.1 ∈ xf_GW) (hd : decode cc pc = .ok (.getfield idx, 3)) (kk : xf_V X np L (.ref (xw_a P 16) :: st) (σ, τ)) : xf_V X pc L (.ref (xw_a P 13) :: st) (σ, τ) := xf_get hX np hp xin_PA 13 rfl rfl 4 (by decide) hl rfl hd kk
theorem xg_PA_depths (hX : xf_ok X l own cc nL fr lo (xw_W P) D tys) (np : Nat) (hp : pc + 3 = np) (hl : Cond.fieldLink own idx (xnT_PA 5).1 (xnT_PA 5).2.1 (xnT_PA 5).2.2.1 ∈ xf_GW) (hd : decode cc pc = .ok (.getfield idx, 3)) (kk : xf_V X np L (.ref (xw_a P 17) :: st) (σ, τ)) : xf_V X pc L (.ref (xw_a P 13) :: st) (σ, τ) := xf_get hX np hp xin_PA 13 rfl rfl 5 (by decide) hl rfl hd kk
theorem xg_PA_queued (hX : xf_ok X l own cc nL fr lo (xw_W P) D tys) (np : Nat) (hp : pc + 3 = np) (hl : Cond.fieldLink own idx (xnT_PA 6).1 (xnT_PA 6).2.1 (xnT_PA 6).2.2.1 ∈ xf_GW) (hd : decode cc pc = .ok (.getfield idx, 3)) (kk : xf_V X np L (.int (σ.1 20) :: st) (σ, τ)) : xf_V X pc L (.ref (xw_a P 13) :: st) (σ, τ) := xf_get hX np hp xin_PA 13 rfl rfl 6 (by decide) hl rfl hd kk
theorem xp_PA_queued (hX : xf_ok X l own cc nL fr lo (xw_W P) D tys) (np : Nat) (hp : pc + 3 = np) {v : Int32} (hl : Cond.fieldLink own idx (xnT_PA 6).1 (xnT_PA 6).2.1 (xnT_PA 6).2.2.1 ∈ xf_GW) (hd : decode cc pc = .ok (.putfield idx, 3)) (kk : xf_V X np L st (xf_I σ 20 v, τ)) : xf_V X pc L (.int v :: .ref (xw_a P 13) :: st) (σ, τ) := xf_put hX np hp xin_PA xnK_PA xnO_PA xnM_PA 13 rfl rfl 6 (by decide) hl rfl (by decide +kernel) (Nat.le_of_ble_eq_true rfl) (σ' := (xf_I σ 20 v, τ)) rfl hd kk
theorem xg_RD_store (hX : xf_ok X l own cc nL fr lo (xw_W P) D tys) (np : Nat) (hp : pc + 3 = np) {r : Nat} (hr : r < 3) (hl : Cond.fieldLink own idx (xnT_RD 0).1 (xnT_RD 0).2.1 (xnT_RD 0).2.2.1 ∈ xf_GW) (hd : decode cc pc = .ok (.getfield idx, 3)) (kk : xf_V X np L (.ref (xw_a P 2) :: st) (σ, τ)) : xf_V X pc L (.ref (xw_a P (18 + r)) :: st) (σ, τ) := xf_get hX np hp xin_RD (18 + r) (xw_at_rd hr) rfl 0 (by decide) hl rfl hd kk
theorem xg_RD_writer (hX : xf_ok X l own cc nL fr lo (xw_W P) D tys) (np : Nat) (hp : pc + 3 = np) {r : Nat} (hr : r < 3) (hl : Cond.fieldLink own idx (xnT_RD 1).1 (xnT_RD 1).2.1 (xnT_RD 1).2.2.1 ∈ xf_GW) (hd : decode cc pc = .ok (.getfield idx, 3)) (kk : xf_V X np L (.ref (xw_a P 3) :: st) (σ, τ)) : xf_V X pc L (.ref (xw_a P (18 + r)) :: st) (σ, τ) := xf_get hX np hp xin_RD (18 + r) (xw_at_rd hr) rfl 1 (by decide) hl rfl hd kk
theorem xg_RD_tally (hX : xf_ok X l own cc nL fr lo (xw_W P) D tys) (np : Nat) (hp : pc + 3 = np) {r : Nat} (hr : r < 3) (hl : Cond.fieldLink own idx (xnT_RD 2).1 (xnT_RD 2).2.1 (xnT_RD 2).2.2.1 ∈ xf_GW) (hd : decode cc pc = .ok (.getfield idx, 3)) (kk : xf_V X np L (.ref (xw_a P 1) :: st) (σ, τ)) : xf_V X pc L (.ref (xw_a P (18 + r)) :: st) (σ, τ) := xf_get hX np hp xin_RD (18 + r) (xw_at_rd hr) rfl 2 (by decide) hl rfl hd kk
theorem xg_RD_state (hX : xf_ok X l own cc nL fr lo (xw_W P) D tys) (np : Nat) (hp : pc + 3 = np) {r : Nat} (hr : r < 3) (hl : Cond.fieldLink own idx (xnT_RD 3).1 (xnT_RD 3).2.1 (xnT_RD 3).2.2.1 ∈ xf_GW) (hd : decode cc pc = .ok (.getfield idx, 3)) (kk : xf_V X np L (.int (σ.1 (24 + 8 * r)) :: st) (σ, τ)) : xf_V X pc L (.ref (xw_a P (18 + r)) :: st) (σ, τ) := xf_get hX np hp xin_RD (18 + r) (xw_at_rd hr) rfl 3 (by decide) hl rfl hd kk
theorem xp_RD_state (hX : xf_ok X l own cc nL fr lo (xw_W P) D tys) (np : Nat) (hp : pc + 3 = np) {r : Nat} (hr : r < 3) {v : Int32} (hl : Cond.fieldLink own idx (xnT_RD 3).1 (xnT_RD 3).2.1 (xnT_RD 3).2.2.1 ∈ xf_GW) (hd : decode cc pc = .ok (.putfield idx, 3)) (kk : xf_V X np L st (xf_I σ (24 + 8 * r) v, τ)) : xf_V X pc L (.int v :: .ref (xw_a P (18 + r)) :: st) (σ, τ) := by
  refine xf_put hX np hp xin_RD xnK_RD xnO_RD xnM_RD (18 + r) (xw_at_rd hr) rfl 3 (by decide) hl rfl (by decide +kernel) (Nat.le_of_ble_eq_true rfl) (σ' := (xf_I σ (24 + 8 * r) v, τ)) ?_ hd kk
  have h9 : r = 0 ∨ r = 1 ∨ r = 2 := by omega
  rcases h9 with rfl | rfl | rfl <;> rfl
theorem xg_RD_copiedValue (hX : xf_ok X l own cc nL fr lo (xw_W P) D tys) (np : Nat) (hp : pc + 3 = np) {r : Nat} (hr : r < 3) (hl : Cond.fieldLink own idx (xnT_RD 4).1 (xnT_RD 4).2.1 (xnT_RD 4).2.2.1 ∈ xf_GW) (hd : decode cc pc = .ok (.getfield idx, 3)) (kk : xf_V X np L (.int (σ.1 (24 + 8 * r + 1)) :: st) (σ, τ)) : xf_V X pc L (.ref (xw_a P (18 + r)) :: st) (σ, τ) := xf_get hX np hp xin_RD (18 + r) (xw_at_rd hr) rfl 4 (by decide) hl rfl hd kk
theorem xp_RD_copiedValue (hX : xf_ok X l own cc nL fr lo (xw_W P) D tys) (np : Nat) (hp : pc + 3 = np) {r : Nat} (hr : r < 3) {v : Int32} (hl : Cond.fieldLink own idx (xnT_RD 4).1 (xnT_RD 4).2.1 (xnT_RD 4).2.2.1 ∈ xf_GW) (hd : decode cc pc = .ok (.putfield idx, 3)) (kk : xf_V X np L st (xf_I σ (24 + 8 * r + 1) v, τ)) : xf_V X pc L (.int v :: .ref (xw_a P (18 + r)) :: st) (σ, τ) := by
  refine xf_put hX np hp xin_RD xnK_RD xnO_RD xnM_RD (18 + r) (xw_at_rd hr) rfl 4 (by decide) hl rfl (by decide +kernel) (Nat.le_of_ble_eq_true rfl) (σ' := (xf_I σ (24 + 8 * r + 1) v, τ)) ?_ hd kk
  have h9 : r = 0 ∨ r = 1 ∨ r = 2 := by omega
  rcases h9 with rfl | rfl | rfl <;> rfl
theorem xg_RD_copiedToken (hX : xf_ok X l own cc nL fr lo (xw_W P) D tys) (np : Nat) (hp : pc + 3 = np) {r : Nat} (hr : r < 3) (hl : Cond.fieldLink own idx (xnT_RD 5).1 (xnT_RD 5).2.1 (xnT_RD 5).2.2.1 ∈ xf_GW) (hd : decode cc pc = .ok (.getfield idx, 3)) (kk : xf_V X np L (.int (σ.1 (24 + 8 * r + 2)) :: st) (σ, τ)) : xf_V X pc L (.ref (xw_a P (18 + r)) :: st) (σ, τ) := xf_get hX np hp xin_RD (18 + r) (xw_at_rd hr) rfl 5 (by decide) hl rfl hd kk
theorem xp_RD_copiedToken (hX : xf_ok X l own cc nL fr lo (xw_W P) D tys) (np : Nat) (hp : pc + 3 = np) {r : Nat} (hr : r < 3) {v : Int32} (hl : Cond.fieldLink own idx (xnT_RD 5).1 (xnT_RD 5).2.1 (xnT_RD 5).2.2.1 ∈ xf_GW) (hd : decode cc pc = .ok (.putfield idx, 3)) (kk : xf_V X np L st (xf_I σ (24 + 8 * r + 2) v, τ)) : xf_V X pc L (.int v :: .ref (xw_a P (18 + r)) :: st) (σ, τ) := by
  refine xf_put hX np hp xin_RD xnK_RD xnO_RD xnM_RD (18 + r) (xw_at_rd hr) rfl 5 (by decide) hl rfl (by decide +kernel) (Nat.le_of_ble_eq_true rfl) (σ' := (xf_I σ (24 + 8 * r + 2) v, τ)) ?_ hd kk
  have h9 : r = 0 ∨ r = 1 ∨ r = 2 := by omega
  rcases h9 with rfl | rfl | rfl <;> rfl
theorem xg_RD_key (hX : xf_ok X l own cc nL fr lo (xw_W P) D tys) (np : Nat) (hp : pc + 3 = np) {r : Nat} (hr : r < 3) (hl : Cond.fieldLink own idx (xnT_RD 6).1 (xnT_RD 6).2.1 (xnT_RD 6).2.2.1 ∈ xf_GW) (hd : decode cc pc = .ok (.getfield idx, 3)) (kk : xf_V X np L (.int (σ.1 (24 + 8 * r + 3)) :: st) (σ, τ)) : xf_V X pc L (.ref (xw_a P (18 + r)) :: st) (σ, τ) := xf_get hX np hp xin_RD (18 + r) (xw_at_rd hr) rfl 6 (by decide) hl rfl hd kk
theorem xp_RD_key (hX : xf_ok X l own cc nL fr lo (xw_W P) D tys) (np : Nat) (hp : pc + 3 = np) {r : Nat} (hr : r < 3) {v : Int32} (hl : Cond.fieldLink own idx (xnT_RD 6).1 (xnT_RD 6).2.1 (xnT_RD 6).2.2.1 ∈ xf_GW) (hd : decode cc pc = .ok (.putfield idx, 3)) (kk : xf_V X np L st (xf_I σ (24 + 8 * r + 3) v, τ)) : xf_V X pc L (.int v :: .ref (xw_a P (18 + r)) :: st) (σ, τ) := by
  refine xf_put hX np hp xin_RD xnK_RD xnO_RD xnM_RD (18 + r) (xw_at_rd hr) rfl 6 (by decide) hl rfl (by decide +kernel) (Nat.le_of_ble_eq_true rfl) (σ' := (xf_I σ (24 + 8 * r + 3) v, τ)) ?_ hd kk
  have h9 : r = 0 ∨ r = 1 ∨ r = 2 := by omega
  rcases h9 with rfl | rfl | rfl <;> rfl
theorem xg_RD_retries (hX : xf_ok X l own cc nL fr lo (xw_W P) D tys) (np : Nat) (hp : pc + 3 = np) {r : Nat} (hr : r < 3) (hl : Cond.fieldLink own idx (xnT_RD 7).1 (xnT_RD 7).2.1 (xnT_RD 7).2.2.1 ∈ xf_GW) (hd : decode cc pc = .ok (.getfield idx, 3)) (kk : xf_V X np L (.int (σ.1 (24 + 8 * r + 4)) :: st) (σ, τ)) : xf_V X pc L (.ref (xw_a P (18 + r)) :: st) (σ, τ) := xf_get hX np hp xin_RD (18 + r) (xw_at_rd hr) rfl 7 (by decide) hl rfl hd kk
theorem xp_RD_retries (hX : xf_ok X l own cc nL fr lo (xw_W P) D tys) (np : Nat) (hp : pc + 3 = np) {r : Nat} (hr : r < 3) {v : Int32} (hl : Cond.fieldLink own idx (xnT_RD 7).1 (xnT_RD 7).2.1 (xnT_RD 7).2.2.1 ∈ xf_GW) (hd : decode cc pc = .ok (.putfield idx, 3)) (kk : xf_V X np L st (xf_I σ (24 + 8 * r + 4) v, τ)) : xf_V X pc L (.int v :: .ref (xw_a P (18 + r)) :: st) (σ, τ) := by
  refine xf_put hX np hp xin_RD xnK_RD xnO_RD xnM_RD (18 + r) (xw_at_rd hr) rfl 7 (by decide) hl rfl (by decide +kernel) (Nat.le_of_ble_eq_true rfl) (σ' := (xf_I σ (24 + 8 * r + 4) v, τ)) ?_ hd kk
  have h9 : r = 0 ∨ r = 1 ∨ r = 2 := by omega
  rcases h9 with rfl | rfl | rfl <;> rfl
theorem xg_RD_keptVersion (hX : xf_ok X l own cc nL fr lo (xw_W P) D tys) (np : Nat) (hp : pc + 3 = np) {r : Nat} (hr : r < 3) (hl : Cond.fieldLink own idx (xnT_RD 8).1 (xnT_RD 8).2.1 (xnT_RD 8).2.2.1 ∈ xf_GW) (hd : decode cc pc = .ok (.getfield idx, 3)) (kk : xf_V X np L (.int (σ.1 (24 + 8 * r + 5)) :: st) (σ, τ)) : xf_V X pc L (.ref (xw_a P (18 + r)) :: st) (σ, τ) := xf_get hX np hp xin_RD (18 + r) (xw_at_rd hr) rfl 8 (by decide) hl rfl hd kk
theorem xp_RD_keptVersion (hX : xf_ok X l own cc nL fr lo (xw_W P) D tys) (np : Nat) (hp : pc + 3 = np) {r : Nat} (hr : r < 3) {v : Int32} (hl : Cond.fieldLink own idx (xnT_RD 8).1 (xnT_RD 8).2.1 (xnT_RD 8).2.2.1 ∈ xf_GW) (hd : decode cc pc = .ok (.putfield idx, 3)) (kk : xf_V X np L st (xf_I σ (24 + 8 * r + 5) v, τ)) : xf_V X pc L (.int v :: .ref (xw_a P (18 + r)) :: st) (σ, τ) := by
  refine xf_put hX np hp xin_RD xnK_RD xnO_RD xnM_RD (18 + r) (xw_at_rd hr) rfl 8 (by decide) hl rfl (by decide +kernel) (Nat.le_of_ble_eq_true rfl) (σ' := (xf_I σ (24 + 8 * r + 5) v, τ)) ?_ hd kk
  have h9 : r = 0 ∨ r = 1 ∨ r = 2 := by omega
  rcases h9 with rfl | rfl | rfl <;> rfl
theorem xg_RD_keptItem (hX : xf_ok X l own cc nL fr lo (xw_W P) D tys) (np : Nat) (hp : pc + 3 = np) {r : Nat} (hr : r < 3) (hl : Cond.fieldLink own idx (xnT_RD 9).1 (xnT_RD 9).2.1 (xnT_RD 9).2.2.1 ∈ xf_GW) (hd : decode cc pc = .ok (.getfield idx, 3)) (kk : xf_V X np L (.int (σ.1 (24 + 8 * r + 6)) :: st) (σ, τ)) : xf_V X pc L (.ref (xw_a P (18 + r)) :: st) (σ, τ) := xf_get hX np hp xin_RD (18 + r) (xw_at_rd hr) rfl 9 (by decide) hl rfl hd kk
theorem xp_RD_keptItem (hX : xf_ok X l own cc nL fr lo (xw_W P) D tys) (np : Nat) (hp : pc + 3 = np) {r : Nat} (hr : r < 3) {v : Int32} (hl : Cond.fieldLink own idx (xnT_RD 9).1 (xnT_RD 9).2.1 (xnT_RD 9).2.2.1 ∈ xf_GW) (hd : decode cc pc = .ok (.putfield idx, 3)) (kk : xf_V X np L st (xf_I σ (24 + 8 * r + 6) v, τ)) : xf_V X pc L (.int v :: .ref (xw_a P (18 + r)) :: st) (σ, τ) := by
  refine xf_put hX np hp xin_RD xnK_RD xnO_RD xnM_RD (18 + r) (xw_at_rd hr) rfl 9 (by decide) hl rfl (by decide +kernel) (Nat.le_of_ble_eq_true rfl) (σ' := (xf_I σ (24 + 8 * r + 6) v, τ)) ?_ hd kk
  have h9 : r = 0 ∨ r = 1 ∨ r = 2 := by omega
  rcases h9 with rfl | rfl | rfl <;> rfl
theorem xg_RD_copiedExpiry (hX : xf_ok X l own cc nL fr lo (xw_W P) D tys) (np : Nat) (hp : pc + 3 = np) {r : Nat} (hr : r < 3) (hl : Cond.fieldLink own idx (xnT_RD 10).1 (xnT_RD 10).2.1 (xnT_RD 10).2.2.1 ∈ xf_GW) (hd : decode cc pc = .ok (.getfield idx, 3)) (kk : xf_V X np L (.int (σ.1 (24 + 8 * r + 7)) :: st) (σ, τ)) : xf_V X pc L (.ref (xw_a P (18 + r)) :: st) (σ, τ) := xf_get hX np hp xin_RD (18 + r) (xw_at_rd hr) rfl 10 (by decide) hl rfl hd kk
theorem xp_RD_copiedExpiry (hX : xf_ok X l own cc nL fr lo (xw_W P) D tys) (np : Nat) (hp : pc + 3 = np) {r : Nat} (hr : r < 3) {v : Int32} (hl : Cond.fieldLink own idx (xnT_RD 10).1 (xnT_RD 10).2.1 (xnT_RD 10).2.2.1 ∈ xf_GW) (hd : decode cc pc = .ok (.putfield idx, 3)) (kk : xf_V X np L st (xf_I σ (24 + 8 * r + 7) v, τ)) : xf_V X pc L (.int v :: .ref (xw_a P (18 + r)) :: st) (σ, τ) := by
  refine xf_put hX np hp xin_RD xnK_RD xnO_RD xnM_RD (18 + r) (xw_at_rd hr) rfl 10 (by decide) hl rfl (by decide +kernel) (Nat.le_of_ble_eq_true rfl) (σ' := (xf_I σ (24 + 8 * r + 7) v, τ)) ?_ hd kk
  have h9 : r = 0 ∨ r = 1 ∨ r = 2 := by omega
  rcases h9 with rfl | rfl | rfl <;> rfl
theorem xg_MO_items (hX : xf_ok X l own cc nL fr lo (xw_W P) D tys) (np : Nat) (hp : pc + 3 = np) (hl : Cond.fieldLink own idx (xnT_MO 0).1 (xnT_MO 0).2.1 (xnT_MO 0).2.2.1 ∈ xf_GW) (hd : decode cc pc = .ok (.getfield idx, 3)) (kk : xf_V X np L (.int (nI (xw_n P)) :: st) (σ, τ)) : xf_V X pc L (.ref (xw_a P 100) :: st) (σ, τ) := xf_get hX np hp xin_MO 21 rfl rfl 0 (by decide) hl rfl hd kk
theorem xg_MO_ways (hX : xf_ok X l own cc nL fr lo (xw_W P) D tys) (np : Nat) (hp : pc + 3 = np) (hl : Cond.fieldLink own idx (xnT_MO 1).1 (xnT_MO 1).2.1 (xnT_MO 1).2.2.1 ∈ xf_GW) (hd : decode cc pc = .ok (.getfield idx, 3)) (kk : xf_V X np L (.int (nI (xw_w P)) :: st) (σ, τ)) : xf_V X pc L (.ref (xw_a P 100) :: st) (σ, τ) := xf_get hX np hp xin_MO 21 rfl rfl 1 (by decide) hl rfl hd kk
theorem xg_MO_time (hX : xf_ok X l own cc nL fr lo (xw_W P) D tys) (np : Nat) (hp : pc + 3 = np) (hl : Cond.fieldLink own idx (xnT_MO 2).1 (xnT_MO 2).2.1 (xnT_MO 2).2.2.1 ∈ xf_GW) (hd : decode cc pc = .ok (.getfield idx, 3)) (kk : xf_V X np L (.int (τ.1 0) :: st) (σ, τ)) : xf_V X pc L (.ref (xw_a P 100) :: st) (σ, τ) := xf_get hX np hp xin_MO 21 rfl rfl 2 (by decide) hl rfl hd kk
theorem xp_MO_time (hX : xf_ok X l own cc nL fr lo (xw_W P) D tys) (np : Nat) (hp : pc + 3 = np) {v : Int32} (hl : Cond.fieldLink own idx (xnT_MO 2).1 (xnT_MO 2).2.1 (xnT_MO 2).2.2.1 ∈ xf_GW) (hd : decode cc pc = .ok (.putfield idx, 3)) (kk : xf_V X np L st (σ, xf_I τ 0 v)) : xf_V X pc L (.int v :: .ref (xw_a P 100) :: st) (σ, τ) := xf_put hX np hp xin_MO xnK_MO xnO_MO xnM_MO 21 rfl rfl 2 (by decide) hl rfl (by decide +kernel) (Nat.le_of_ble_eq_true rfl) (σ' := (σ, xf_I τ 0 v)) rfl hd kk
theorem xg_MO_hand (hX : xf_ok X l own cc nL fr lo (xw_W P) D tys) (np : Nat) (hp : pc + 3 = np) (hl : Cond.fieldLink own idx (xnT_MO 3).1 (xnT_MO 3).2.1 (xnT_MO 3).2.2.1 ∈ xf_GW) (hd : decode cc pc = .ok (.getfield idx, 3)) (kk : xf_V X np L (.int (τ.1 1) :: st) (σ, τ)) : xf_V X pc L (.ref (xw_a P 100) :: st) (σ, τ) := xf_get hX np hp xin_MO 21 rfl rfl 3 (by decide) hl rfl hd kk
theorem xp_MO_hand (hX : xf_ok X l own cc nL fr lo (xw_W P) D tys) (np : Nat) (hp : pc + 3 = np) {v : Int32} (hl : Cond.fieldLink own idx (xnT_MO 3).1 (xnT_MO 3).2.1 (xnT_MO 3).2.2.1 ∈ xf_GW) (hd : decode cc pc = .ok (.putfield idx, 3)) (kk : xf_V X np L st (σ, xf_I τ 1 v)) : xf_V X pc L (.int v :: .ref (xw_a P 100) :: st) (σ, τ) := xf_put hX np hp xin_MO xnK_MO xnO_MO xnM_MO 21 rfl rfl 3 (by decide) hl rfl (by decide +kernel) (Nat.le_of_ble_eq_true rfl) (σ' := (σ, xf_I τ 1 v)) rfl hd kk
theorem xg_MO_tokens (hX : xf_ok X l own cc nL fr lo (xw_W P) D tys) (np : Nat) (hp : pc + 3 = np) (hl : Cond.fieldLink own idx (xnT_MO 4).1 (xnT_MO 4).2.1 (xnT_MO 4).2.2.1 ∈ xf_GW) (hd : decode cc pc = .ok (.getfield idx, 3)) (kk : xf_V X np L (.int (τ.1 2) :: st) (σ, τ)) : xf_V X pc L (.ref (xw_a P 100) :: st) (σ, τ) := xf_get hX np hp xin_MO 21 rfl rfl 4 (by decide) hl rfl hd kk
theorem xp_MO_tokens (hX : xf_ok X l own cc nL fr lo (xw_W P) D tys) (np : Nat) (hp : pc + 3 = np) {v : Int32} (hl : Cond.fieldLink own idx (xnT_MO 4).1 (xnT_MO 4).2.1 (xnT_MO 4).2.2.1 ∈ xf_GW) (hd : decode cc pc = .ok (.putfield idx, 3)) (kk : xf_V X np L st (σ, xf_I τ 2 v)) : xf_V X pc L (.int v :: .ref (xw_a P 100) :: st) (σ, τ) := xf_put hX np hp xin_MO xnK_MO xnO_MO xnM_MO 21 rfl rfl 4 (by decide) hl rfl (by decide +kernel) (Nat.le_of_ble_eq_true rfl) (σ' := (σ, xf_I τ 2 v)) rfl hd kk
theorem xg_MO_held (hX : xf_ok X l own cc nL fr lo (xw_W P) D tys) (np : Nat) (hp : pc + 3 = np) (hl : Cond.fieldLink own idx (xnT_MO 5).1 (xnT_MO 5).2.1 (xnT_MO 5).2.2.1 ∈ xf_GW) (hd : decode cc pc = .ok (.getfield idx, 3)) (kk : xf_V X np L (.ref (xw_a P 101) :: st) (σ, τ)) : xf_V X pc L (.ref (xw_a P 100) :: st) (σ, τ) := xf_get hX np hp xin_MO 21 rfl rfl 5 (by decide) hl rfl hd kk
theorem xg_MO_taken (hX : xf_ok X l own cc nL fr lo (xw_W P) D tys) (np : Nat) (hp : pc + 3 = np) (hl : Cond.fieldLink own idx (xnT_MO 6).1 (xnT_MO 6).2.1 (xnT_MO 6).2.2.1 ∈ xf_GW) (hd : decode cc pc = .ok (.getfield idx, 3)) (kk : xf_V X np L (.ref (xw_a P 102) :: st) (σ, τ)) : xf_V X pc L (.ref (xw_a P 100) :: st) (σ, τ) := xf_get hX np hp xin_MO 21 rfl rfl 6 (by decide) hl rfl hd kk
theorem xg_MO_keys (hX : xf_ok X l own cc nL fr lo (xw_W P) D tys) (np : Nat) (hp : pc + 3 = np) (hl : Cond.fieldLink own idx (xnT_MO 7).1 (xnT_MO 7).2.1 (xnT_MO 7).2.2.1 ∈ xf_GW) (hd : decode cc pc = .ok (.getfield idx, 3)) (kk : xf_V X np L (.ref (xw_a P 103) :: st) (σ, τ)) : xf_V X pc L (.ref (xw_a P 100) :: st) (σ, τ) := xf_get hX np hp xin_MO 21 rfl rfl 7 (by decide) hl rfl hd kk
theorem xg_MO_values (hX : xf_ok X l own cc nL fr lo (xw_W P) D tys) (np : Nat) (hp : pc + 3 = np) (hl : Cond.fieldLink own idx (xnT_MO 8).1 (xnT_MO 8).2.1 (xnT_MO 8).2.2.1 ∈ xf_GW) (hd : decode cc pc = .ok (.getfield idx, 3)) (kk : xf_V X np L (.ref (xw_a P 104) :: st) (σ, τ)) : xf_V X pc L (.ref (xw_a P 100) :: st) (σ, τ) := xf_get hX np hp xin_MO 21 rfl rfl 8 (by decide) hl rfl hd kk
theorem xg_MO_marks (hX : xf_ok X l own cc nL fr lo (xw_W P) D tys) (np : Nat) (hp : pc + 3 = np) (hl : Cond.fieldLink own idx (xnT_MO 9).1 (xnT_MO 9).2.1 (xnT_MO 9).2.2.1 ∈ xf_GW) (hd : decode cc pc = .ok (.getfield idx, 3)) (kk : xf_V X np L (.ref (xw_a P 105) :: st) (σ, τ)) : xf_V X pc L (.ref (xw_a P 100) :: st) (σ, τ) := xf_get hX np hp xin_MO 21 rfl rfl 9 (by decide) hl rfl hd kk
theorem xg_MO_ends (hX : xf_ok X l own cc nL fr lo (xw_W P) D tys) (np : Nat) (hp : pc + 3 = np) (hl : Cond.fieldLink own idx (xnT_MO 10).1 (xnT_MO 10).2.1 (xnT_MO 10).2.2.1 ∈ xf_GW) (hd : decode cc pc = .ok (.getfield idx, 3)) (kk : xf_V X np L (.ref (xw_a P 106) :: st) (σ, τ)) : xf_V X pc L (.ref (xw_a P 100) :: st) (σ, τ) := xf_get hX np hp xin_MO 21 rfl rfl 10 (by decide) hl rfl hd kk
theorem xg_MO_bits (hX : xf_ok X l own cc nL fr lo (xw_W P) D tys) (np : Nat) (hp : pc + 3 = np) (hl : Cond.fieldLink own idx (xnT_MO 11).1 (xnT_MO 11).2.1 (xnT_MO 11).2.2.1 ∈ xf_GW) (hd : decode cc pc = .ok (.getfield idx, 3)) (kk : xf_V X np L (.ref (xw_a P 107) :: st) (σ, τ)) : xf_V X pc L (.ref (xw_a P 100) :: st) (σ, τ) := xf_get hX np hp xin_MO 21 rfl rfl 11 (by decide) hl rfl hd kk
theorem xg_MO_versions (hX : xf_ok X l own cc nL fr lo (xw_W P) D tys) (np : Nat) (hp : pc + 3 = np) (hl : Cond.fieldLink own idx (xnT_MO 12).1 (xnT_MO 12).2.1 (xnT_MO 12).2.2.1 ∈ xf_GW) (hd : decode cc pc = .ok (.getfield idx, 3)) (kk : xf_V X np L (.ref (xw_a P 108) :: st) (σ, τ)) : xf_V X pc L (.ref (xw_a P 100) :: st) (σ, τ) := xf_get hX np hp xin_MO 21 rfl rfl 12 (by decide) hl rfl hd kk
theorem xg_MO_next (hX : xf_ok X l own cc nL fr lo (xw_W P) D tys) (np : Nat) (hp : pc + 3 = np) (hl : Cond.fieldLink own idx (xnT_MO 13).1 (xnT_MO 13).2.1 (xnT_MO 13).2.2.1 ∈ xf_GW) (hd : decode cc pc = .ok (.getfield idx, 3)) (kk : xf_V X np L (.int (τ.1 3) :: st) (σ, τ)) : xf_V X pc L (.ref (xw_a P 100) :: st) (σ, τ) := xf_get hX np hp xin_MO 21 rfl rfl 13 (by decide) hl rfl hd kk
theorem xp_MO_next (hX : xf_ok X l own cc nL fr lo (xw_W P) D tys) (np : Nat) (hp : pc + 3 = np) {v : Int32} (hl : Cond.fieldLink own idx (xnT_MO 13).1 (xnT_MO 13).2.1 (xnT_MO 13).2.2.1 ∈ xf_GW) (hd : decode cc pc = .ok (.putfield idx, 3)) (kk : xf_V X np L st (σ, xf_I τ 3 v)) : xf_V X pc L (.int v :: .ref (xw_a P 100) :: st) (σ, τ) := xf_put hX np hp xin_MO xnK_MO xnO_MO xnM_MO 21 rfl rfl 13 (by decide) hl rfl (by decide +kernel) (Nat.le_of_ble_eq_true rfl) (σ' := (σ, xf_I τ 3 v)) rfl hd kk
theorem xg_MO_result (hX : xf_ok X l own cc nL fr lo (xw_W P) D tys) (np : Nat) (hp : pc + 3 = np) (hl : Cond.fieldLink own idx (xnT_MO 14).1 (xnT_MO 14).2.1 (xnT_MO 14).2.2.1 ∈ xf_GW) (hd : decode cc pc = .ok (.getfield idx, 3)) (kk : xf_V X np L (.int (τ.1 4) :: st) (σ, τ)) : xf_V X pc L (.ref (xw_a P 100) :: st) (σ, τ) := xf_get hX np hp xin_MO 21 rfl rfl 14 (by decide) hl rfl hd kk
theorem xp_MO_result (hX : xf_ok X l own cc nL fr lo (xw_W P) D tys) (np : Nat) (hp : pc + 3 = np) {v : Int32} (hl : Cond.fieldLink own idx (xnT_MO 14).1 (xnT_MO 14).2.1 (xnT_MO 14).2.2.1 ∈ xf_GW) (hd : decode cc pc = .ok (.putfield idx, 3)) (kk : xf_V X np L st (σ, xf_I τ 4 v)) : xf_V X pc L (.int v :: .ref (xw_a P 100) :: st) (σ, τ) := xf_put hX np hp xin_MO xnK_MO xnO_MO xnM_MO 21 rfl rfl 14 (by decide) hl rfl (by decide +kernel) (Nat.le_of_ble_eq_true rfl) (σ' := (σ, xf_I τ 4 v)) rfl hd kk
theorem xg_MO_kind (hX : xf_ok X l own cc nL fr lo (xw_W P) D tys) (np : Nat) (hp : pc + 3 = np) (hl : Cond.fieldLink own idx (xnT_MO 15).1 (xnT_MO 15).2.1 (xnT_MO 15).2.2.1 ∈ xf_GW) (hd : decode cc pc = .ok (.getfield idx, 3)) (kk : xf_V X np L (.int (τ.1 5) :: st) (σ, τ)) : xf_V X pc L (.ref (xw_a P 100) :: st) (σ, τ) := xf_get hX np hp xin_MO 21 rfl rfl 15 (by decide) hl rfl hd kk
theorem xp_MO_kind (hX : xf_ok X l own cc nL fr lo (xw_W P) D tys) (np : Nat) (hp : pc + 3 = np) {v : Int32} (hl : Cond.fieldLink own idx (xnT_MO 15).1 (xnT_MO 15).2.1 (xnT_MO 15).2.2.1 ∈ xf_GW) (hd : decode cc pc = .ok (.putfield idx, 3)) (kk : xf_V X np L st (σ, xf_I τ 5 v)) : xf_V X pc L (.int v :: .ref (xw_a P 100) :: st) (σ, τ) := xf_put hX np hp xin_MO xnK_MO xnO_MO xnM_MO 21 rfl rfl 15 (by decide) hl rfl (by decide +kernel) (Nat.le_of_ble_eq_true rfl) (σ' := (σ, xf_I τ 5 v)) rfl hd kk
theorem xg_MO_key (hX : xf_ok X l own cc nL fr lo (xw_W P) D tys) (np : Nat) (hp : pc + 3 = np) (hl : Cond.fieldLink own idx (xnT_MO 16).1 (xnT_MO 16).2.1 (xnT_MO 16).2.2.1 ∈ xf_GW) (hd : decode cc pc = .ok (.getfield idx, 3)) (kk : xf_V X np L (.int (τ.1 6) :: st) (σ, τ)) : xf_V X pc L (.ref (xw_a P 100) :: st) (σ, τ) := xf_get hX np hp xin_MO 21 rfl rfl 16 (by decide) hl rfl hd kk
theorem xp_MO_key (hX : xf_ok X l own cc nL fr lo (xw_W P) D tys) (np : Nat) (hp : pc + 3 = np) {v : Int32} (hl : Cond.fieldLink own idx (xnT_MO 16).1 (xnT_MO 16).2.1 (xnT_MO 16).2.2.1 ∈ xf_GW) (hd : decode cc pc = .ok (.putfield idx, 3)) (kk : xf_V X np L st (σ, xf_I τ 6 v)) : xf_V X pc L (.int v :: .ref (xw_a P 100) :: st) (σ, τ) := xf_put hX np hp xin_MO xnK_MO xnO_MO xnM_MO 21 rfl rfl 16 (by decide) hl rfl (by decide +kernel) (Nat.le_of_ble_eq_true rfl) (σ' := (σ, xf_I τ 6 v)) rfl hd kk
theorem xg_MO_put (hX : xf_ok X l own cc nL fr lo (xw_W P) D tys) (np : Nat) (hp : pc + 3 = np) (hl : Cond.fieldLink own idx (xnT_MO 17).1 (xnT_MO 17).2.1 (xnT_MO 17).2.2.1 ∈ xf_GW) (hd : decode cc pc = .ok (.getfield idx, 3)) (kk : xf_V X np L (.int (τ.1 7) :: st) (σ, τ)) : xf_V X pc L (.ref (xw_a P 100) :: st) (σ, τ) := xf_get hX np hp xin_MO 21 rfl rfl 17 (by decide) hl rfl hd kk
theorem xp_MO_put (hX : xf_ok X l own cc nL fr lo (xw_W P) D tys) (np : Nat) (hp : pc + 3 = np) {v : Int32} (hl : Cond.fieldLink own idx (xnT_MO 17).1 (xnT_MO 17).2.1 (xnT_MO 17).2.2.1 ∈ xf_GW) (hd : decode cc pc = .ok (.putfield idx, 3)) (kk : xf_V X np L st (σ, xf_I τ 7 v)) : xf_V X pc L (.int v :: .ref (xw_a P 100) :: st) (σ, τ) := xf_put hX np hp xin_MO xnK_MO xnO_MO xnM_MO 21 rfl rfl 17 (by decide) hl rfl (by decide +kernel) (Nat.le_of_ble_eq_true rfl) (σ' := (σ, xf_I τ 7 v)) rfl hd kk
theorem xg_MO_life (hX : xf_ok X l own cc nL fr lo (xw_W P) D tys) (np : Nat) (hp : pc + 3 = np) (hl : Cond.fieldLink own idx (xnT_MO 18).1 (xnT_MO 18).2.1 (xnT_MO 18).2.2.1 ∈ xf_GW) (hd : decode cc pc = .ok (.getfield idx, 3)) (kk : xf_V X np L (.int (τ.1 8) :: st) (σ, τ)) : xf_V X pc L (.ref (xw_a P 100) :: st) (σ, τ) := xf_get hX np hp xin_MO 21 rfl rfl 18 (by decide) hl rfl hd kk
theorem xp_MO_life (hX : xf_ok X l own cc nL fr lo (xw_W P) D tys) (np : Nat) (hp : pc + 3 = np) {v : Int32} (hl : Cond.fieldLink own idx (xnT_MO 18).1 (xnT_MO 18).2.1 (xnT_MO 18).2.2.1 ∈ xf_GW) (hd : decode cc pc = .ok (.putfield idx, 3)) (kk : xf_V X np L st (σ, xf_I τ 8 v)) : xf_V X pc L (.int v :: .ref (xw_a P 100) :: st) (σ, τ) := xf_put hX np hp xin_MO xnK_MO xnO_MO xnM_MO 21 rfl rfl 18 (by decide) hl rfl (by decide +kernel) (Nat.le_of_ble_eq_true rfl) (σ' := (σ, xf_I τ 8 v)) rfl hd kk
theorem xg_MO_wanted (hX : xf_ok X l own cc nL fr lo (xw_W P) D tys) (np : Nat) (hp : pc + 3 = np) (hl : Cond.fieldLink own idx (xnT_MO 19).1 (xnT_MO 19).2.1 (xnT_MO 19).2.2.1 ∈ xf_GW) (hd : decode cc pc = .ok (.getfield idx, 3)) (kk : xf_V X np L (.int (τ.1 9) :: st) (σ, τ)) : xf_V X pc L (.ref (xw_a P 100) :: st) (σ, τ) := xf_get hX np hp xin_MO 21 rfl rfl 19 (by decide) hl rfl hd kk
theorem xp_MO_wanted (hX : xf_ok X l own cc nL fr lo (xw_W P) D tys) (np : Nat) (hp : pc + 3 = np) {v : Int32} (hl : Cond.fieldLink own idx (xnT_MO 19).1 (xnT_MO 19).2.1 (xnT_MO 19).2.2.1 ∈ xf_GW) (hd : decode cc pc = .ok (.putfield idx, 3)) (kk : xf_V X np L st (σ, xf_I τ 9 v)) : xf_V X pc L (.int v :: .ref (xw_a P 100) :: st) (σ, τ) := xf_put hX np hp xin_MO xnK_MO xnO_MO xnM_MO 21 rfl rfl 19 (by decide) hl rfl (by decide +kernel) (Nat.le_of_ble_eq_true rfl) (σ' := (σ, xf_I τ 9 v)) rfl hd kk
theorem xg_MO_target (hX : xf_ok X l own cc nL fr lo (xw_W P) D tys) (np : Nat) (hp : pc + 3 = np) (hl : Cond.fieldLink own idx (xnT_MO 20).1 (xnT_MO 20).2.1 (xnT_MO 20).2.2.1 ∈ xf_GW) (hd : decode cc pc = .ok (.getfield idx, 3)) (kk : xf_V X np L (.int (τ.1 10) :: st) (σ, τ)) : xf_V X pc L (.ref (xw_a P 100) :: st) (σ, τ) := xf_get hX np hp xin_MO 21 rfl rfl 20 (by decide) hl rfl hd kk
theorem xp_MO_target (hX : xf_ok X l own cc nL fr lo (xw_W P) D tys) (np : Nat) (hp : pc + 3 = np) {v : Int32} (hl : Cond.fieldLink own idx (xnT_MO 20).1 (xnT_MO 20).2.1 (xnT_MO 20).2.2.1 ∈ xf_GW) (hd : decode cc pc = .ok (.putfield idx, 3)) (kk : xf_V X np L st (σ, xf_I τ 10 v)) : xf_V X pc L (.int v :: .ref (xw_a P 100) :: st) (σ, τ) := xf_put hX np hp xin_MO xnK_MO xnO_MO xnM_MO 21 rfl rfl 20 (by decide) hl rfl (by decide +kernel) (Nat.le_of_ble_eq_true rfl) (σ' := (σ, xf_I τ 10 v)) rfl hd kk
theorem xg_MO_last (hX : xf_ok X l own cc nL fr lo (xw_W P) D tys) (np : Nat) (hp : pc + 3 = np) (hl : Cond.fieldLink own idx (xnT_MO 21).1 (xnT_MO 21).2.1 (xnT_MO 21).2.2.1 ∈ xf_GW) (hd : decode cc pc = .ok (.getfield idx, 3)) (kk : xf_V X np L (.int (τ.1 11) :: st) (σ, τ)) : xf_V X pc L (.ref (xw_a P 100) :: st) (σ, τ) := xf_get hX np hp xin_MO 21 rfl rfl 21 (by decide) hl rfl hd kk
theorem xp_MO_last (hX : xf_ok X l own cc nL fr lo (xw_W P) D tys) (np : Nat) (hp : pc + 3 = np) {v : Int32} (hl : Cond.fieldLink own idx (xnT_MO 21).1 (xnT_MO 21).2.1 (xnT_MO 21).2.2.1 ∈ xf_GW) (hd : decode cc pc = .ok (.putfield idx, 3)) (kk : xf_V X np L st (σ, xf_I τ 11 v)) : xf_V X pc L (.int v :: .ref (xw_a P 100) :: st) (σ, τ) := xf_put hX np hp xin_MO xnK_MO xnO_MO xnM_MO 21 rfl rfl 21 (by decide) hl rfl (by decide +kernel) (Nat.le_of_ble_eq_true rfl) (σ' := (σ, xf_I τ 11 v)) rfl hd kk
theorem xg_MO_from (hX : xf_ok X l own cc nL fr lo (xw_W P) D tys) (np : Nat) (hp : pc + 3 = np) (hl : Cond.fieldLink own idx (xnT_MO 22).1 (xnT_MO 22).2.1 (xnT_MO 22).2.2.1 ∈ xf_GW) (hd : decode cc pc = .ok (.getfield idx, 3)) (kk : xf_V X np L (.int (τ.1 12) :: st) (σ, τ)) : xf_V X pc L (.ref (xw_a P 100) :: st) (σ, τ) := xf_get hX np hp xin_MO 21 rfl rfl 22 (by decide) hl rfl hd kk
theorem xp_MO_from (hX : xf_ok X l own cc nL fr lo (xw_W P) D tys) (np : Nat) (hp : pc + 3 = np) {v : Int32} (hl : Cond.fieldLink own idx (xnT_MO 22).1 (xnT_MO 22).2.1 (xnT_MO 22).2.2.1 ∈ xf_GW) (hd : decode cc pc = .ok (.putfield idx, 3)) (kk : xf_V X np L st (σ, xf_I τ 12 v)) : xf_V X pc L (.int v :: .ref (xw_a P 100) :: st) (σ, τ) := xf_put hX np hp xin_MO xnK_MO xnO_MO xnM_MO 21 rfl rfl 22 (by decide) hl rfl (by decide +kernel) (Nat.le_of_ble_eq_true rfl) (σ' := (σ, xf_I τ 12 v)) rfl hd kk
theorem xg_MO_path (hX : xf_ok X l own cc nL fr lo (xw_W P) D tys) (np : Nat) (hp : pc + 3 = np) (hl : Cond.fieldLink own idx (xnT_MO 23).1 (xnT_MO 23).2.1 (xnT_MO 23).2.2.1 ∈ xf_GW) (hd : decode cc pc = .ok (.getfield idx, 3)) (kk : xf_V X np L (.ref (xw_a P 109) :: st) (σ, τ)) : xf_V X pc L (.ref (xw_a P 100) :: st) (σ, τ) := xf_get hX np hp xin_MO 21 rfl rfl 23 (by decide) hl rfl hd kk
theorem xg_MO_states (hX : xf_ok X l own cc nL fr lo (xw_W P) D tys) (np : Nat) (hp : pc + 3 = np) (hl : Cond.fieldLink own idx (xnT_MO 24).1 (xnT_MO 24).2.1 (xnT_MO 24).2.2.1 ∈ xf_GW) (hd : decode cc pc = .ok (.getfield idx, 3)) (kk : xf_V X np L (.ref (xw_a P 110) :: st) (σ, τ)) : xf_V X pc L (.ref (xw_a P 100) :: st) (σ, τ) := xf_get hX np hp xin_MO 21 rfl rfl 24 (by decide) hl rfl hd kk
theorem xg_MO_sought (hX : xf_ok X l own cc nL fr lo (xw_W P) D tys) (np : Nat) (hp : pc + 3 = np) (hl : Cond.fieldLink own idx (xnT_MO 25).1 (xnT_MO 25).2.1 (xnT_MO 25).2.2.1 ∈ xf_GW) (hd : decode cc pc = .ok (.getfield idx, 3)) (kk : xf_V X np L (.ref (xw_a P 111) :: st) (σ, τ)) : xf_V X pc L (.ref (xw_a P 100) :: st) (σ, τ) := xf_get hX np hp xin_MO 21 rfl rfl 25 (by decide) hl rfl hd kk
theorem xg_MO_kept (hX : xf_ok X l own cc nL fr lo (xw_W P) D tys) (np : Nat) (hp : pc + 3 = np) (hl : Cond.fieldLink own idx (xnT_MO 26).1 (xnT_MO 26).2.1 (xnT_MO 26).2.2.1 ∈ xf_GW) (hd : decode cc pc = .ok (.getfield idx, 3)) (kk : xf_V X np L (.ref (xw_a P 112) :: st) (σ, τ)) : xf_V X pc L (.ref (xw_a P 100) :: st) (σ, τ) := xf_get hX np hp xin_MO 21 rfl rfl 26 (by decide) hl rfl hd kk
theorem xg_MO_retries (hX : xf_ok X l own cc nL fr lo (xw_W P) D tys) (np : Nat) (hp : pc + 3 = np) (hl : Cond.fieldLink own idx (xnT_MO 27).1 (xnT_MO 27).2.1 (xnT_MO 27).2.2.1 ∈ xf_GW) (hd : decode cc pc = .ok (.getfield idx, 3)) (kk : xf_V X np L (.ref (xw_a P 113) :: st) (σ, τ)) : xf_V X pc L (.ref (xw_a P 100) :: st) (σ, τ) := xf_get hX np hp xin_MO 21 rfl rfl 27 (by decide) hl rfl hd kk
theorem xg_MO_got (hX : xf_ok X l own cc nL fr lo (xw_W P) D tys) (np : Nat) (hp : pc + 3 = np) (hl : Cond.fieldLink own idx (xnT_MO 28).1 (xnT_MO 28).2.1 (xnT_MO 28).2.2.1 ∈ xf_GW) (hd : decode cc pc = .ok (.getfield idx, 3)) (kk : xf_V X np L (.ref (xw_a P 114) :: st) (σ, τ)) : xf_V X pc L (.ref (xw_a P 100) :: st) (σ, τ) := xf_get hX np hp xin_MO 21 rfl rfl 28 (by decide) hl rfl hd kk
theorem xg_MO_copied (hX : xf_ok X l own cc nL fr lo (xw_W P) D tys) (np : Nat) (hp : pc + 3 = np) (hl : Cond.fieldLink own idx (xnT_MO 29).1 (xnT_MO 29).2.1 (xnT_MO 29).2.2.1 ∈ xf_GW) (hd : decode cc pc = .ok (.getfield idx, 3)) (kk : xf_V X np L (.ref (xw_a P 115) :: st) (σ, τ)) : xf_V X pc L (.ref (xw_a P 100) :: st) (σ, τ) := xf_get hX np hp xin_MO 21 rfl rfl 29 (by decide) hl rfl hd kk
theorem xg_MO_copiedMark (hX : xf_ok X l own cc nL fr lo (xw_W P) D tys) (np : Nat) (hp : pc + 3 = np) (hl : Cond.fieldLink own idx (xnT_MO 30).1 (xnT_MO 30).2.1 (xnT_MO 30).2.2.1 ∈ xf_GW) (hd : decode cc pc = .ok (.getfield idx, 3)) (kk : xf_V X np L (.ref (xw_a P 116) :: st) (σ, τ)) : xf_V X pc L (.ref (xw_a P 100) :: st) (σ, τ) := xf_get hX np hp xin_MO 21 rfl rfl 30 (by decide) hl rfl hd kk
theorem xg_MO_copiedEnd (hX : xf_ok X l own cc nL fr lo (xw_W P) D tys) (np : Nat) (hp : pc + 3 = np) (hl : Cond.fieldLink own idx (xnT_MO 31).1 (xnT_MO 31).2.1 (xnT_MO 31).2.2.1 ∈ xf_GW) (hd : decode cc pc = .ok (.getfield idx, 3)) (kk : xf_V X np L (.ref (xw_a P 117) :: st) (σ, τ)) : xf_V X pc L (.ref (xw_a P 100) :: st) (σ, τ) := xf_get hX np hp xin_MO 21 rfl rfl 31 (by decide) hl rfl hd kk
theorem xg_MO_evictions (hX : xf_ok X l own cc nL fr lo (xw_W P) D tys) (np : Nat) (hp : pc + 3 = np) (hl : Cond.fieldLink own idx (xnT_MO 32).1 (xnT_MO 32).2.1 (xnT_MO 32).2.2.1 ∈ xf_GW) (hd : decode cc pc = .ok (.getfield idx, 3)) (kk : xf_V X np L (.int (τ.1 13) :: st) (σ, τ)) : xf_V X pc L (.ref (xw_a P 100) :: st) (σ, τ) := xf_get hX np hp xin_MO 21 rfl rfl 32 (by decide) hl rfl hd kk
theorem xp_MO_evictions (hX : xf_ok X l own cc nL fr lo (xw_W P) D tys) (np : Nat) (hp : pc + 3 = np) {v : Int32} (hl : Cond.fieldLink own idx (xnT_MO 32).1 (xnT_MO 32).2.1 (xnT_MO 32).2.2.1 ∈ xf_GW) (hd : decode cc pc = .ok (.putfield idx, 3)) (kk : xf_V X np L st (σ, xf_I τ 13 v)) : xf_V X pc L (.int v :: .ref (xw_a P 100) :: st) (σ, τ) := xf_put hX np hp xin_MO xnK_MO xnO_MO xnM_MO 21 rfl rfl 32 (by decide) hl rfl (by decide +kernel) (Nat.le_of_ble_eq_true rfl) (σ' := (σ, xf_I τ 13 v)) rfl hd kk
theorem xg_MO_moves (hX : xf_ok X l own cc nL fr lo (xw_W P) D tys) (np : Nat) (hp : pc + 3 = np) (hl : Cond.fieldLink own idx (xnT_MO 33).1 (xnT_MO 33).2.1 (xnT_MO 33).2.2.1 ∈ xf_GW) (hd : decode cc pc = .ok (.getfield idx, 3)) (kk : xf_V X np L (.int (τ.1 14) :: st) (σ, τ)) : xf_V X pc L (.ref (xw_a P 100) :: st) (σ, τ) := xf_get hX np hp xin_MO 21 rfl rfl 33 (by decide) hl rfl hd kk
theorem xp_MO_moves (hX : xf_ok X l own cc nL fr lo (xw_W P) D tys) (np : Nat) (hp : pc + 3 = np) {v : Int32} (hl : Cond.fieldLink own idx (xnT_MO 33).1 (xnT_MO 33).2.1 (xnT_MO 33).2.2.1 ∈ xf_GW) (hd : decode cc pc = .ok (.putfield idx, 3)) (kk : xf_V X np L st (σ, xf_I τ 14 v)) : xf_V X pc L (.int v :: .ref (xw_a P 100) :: st) (σ, τ) := xf_put hX np hp xin_MO xnK_MO xnO_MO xnM_MO 21 rfl rfl 33 (by decide) hl rfl (by decide +kernel) (Nat.le_of_ble_eq_true rfl) (σ' := (σ, xf_I τ 14 v)) rfl hd kk
theorem xg_MO_allRetries (hX : xf_ok X l own cc nL fr lo (xw_W P) D tys) (np : Nat) (hp : pc + 3 = np) (hl : Cond.fieldLink own idx (xnT_MO 34).1 (xnT_MO 34).2.1 (xnT_MO 34).2.2.1 ∈ xf_GW) (hd : decode cc pc = .ok (.getfield idx, 3)) (kk : xf_V X np L (.int (τ.1 15) :: st) (σ, τ)) : xf_V X pc L (.ref (xw_a P 100) :: st) (σ, τ) := xf_get hX np hp xin_MO 21 rfl rfl 34 (by decide) hl rfl hd kk
theorem xp_MO_allRetries (hX : xf_ok X l own cc nL fr lo (xw_W P) D tys) (np : Nat) (hp : pc + 3 = np) {v : Int32} (hl : Cond.fieldLink own idx (xnT_MO 34).1 (xnT_MO 34).2.1 (xnT_MO 34).2.2.1 ∈ xf_GW) (hd : decode cc pc = .ok (.putfield idx, 3)) (kk : xf_V X np L st (σ, xf_I τ 15 v)) : xf_V X pc L (.int v :: .ref (xw_a P 100) :: st) (σ, τ) := xf_put hX np hp xin_MO xnK_MO xnO_MO xnM_MO 21 rfl rfl 34 (by decide) hl rfl (by decide +kernel) (Nat.le_of_ble_eq_true rfl) (σ' := (σ, xf_I τ 15 v)) rfl hd kk
theorem xg_MO_waits (hX : xf_ok X l own cc nL fr lo (xw_W P) D tys) (np : Nat) (hp : pc + 3 = np) (hl : Cond.fieldLink own idx (xnT_MO 35).1 (xnT_MO 35).2.1 (xnT_MO 35).2.2.1 ∈ xf_GW) (hd : decode cc pc = .ok (.getfield idx, 3)) (kk : xf_V X np L (.int (τ.1 16) :: st) (σ, τ)) : xf_V X pc L (.ref (xw_a P 100) :: st) (σ, τ) := xf_get hX np hp xin_MO 21 rfl rfl 35 (by decide) hl rfl hd kk
theorem xp_MO_waits (hX : xf_ok X l own cc nL fr lo (xw_W P) D tys) (np : Nat) (hp : pc + 3 = np) {v : Int32} (hl : Cond.fieldLink own idx (xnT_MO 35).1 (xnT_MO 35).2.1 (xnT_MO 35).2.2.1 ∈ xf_GW) (hd : decode cc pc = .ok (.putfield idx, 3)) (kk : xf_V X np L st (σ, xf_I τ 16 v)) : xf_V X pc L (.int v :: .ref (xw_a P 100) :: st) (σ, τ) := xf_put hX np hp xin_MO xnK_MO xnO_MO xnM_MO 21 rfl rfl 35 (by decide) hl rfl (by decide +kernel) (Nat.le_of_ble_eq_true rfl) (σ' := (σ, xf_I τ 16 v)) rfl hd kk
theorem xg_MO_near (hX : xf_ok X l own cc nL fr lo (xw_W P) D tys) (np : Nat) (hp : pc + 3 = np) (hl : Cond.fieldLink own idx (xnT_MO 36).1 (xnT_MO 36).2.1 (xnT_MO 36).2.2.1 ∈ xf_GW) (hd : decode cc pc = .ok (.getfield idx, 3)) (kk : xf_V X np L (.int (τ.1 17) :: st) (σ, τ)) : xf_V X pc L (.ref (xw_a P 100) :: st) (σ, τ) := xf_get hX np hp xin_MO 21 rfl rfl 36 (by decide) hl rfl hd kk
theorem xp_MO_near (hX : xf_ok X l own cc nL fr lo (xw_W P) D tys) (np : Nat) (hp : pc + 3 = np) {v : Int32} (hl : Cond.fieldLink own idx (xnT_MO 36).1 (xnT_MO 36).2.1 (xnT_MO 36).2.2.1 ∈ xf_GW) (hd : decode cc pc = .ok (.putfield idx, 3)) (kk : xf_V X np L st (σ, xf_I τ 17 v)) : xf_V X pc L (.int v :: .ref (xw_a P 100) :: st) (σ, τ) := xf_put hX np hp xin_MO xnK_MO xnO_MO xnM_MO 21 rfl rfl 36 (by decide) hl rfl (by decide +kernel) (Nat.le_of_ble_eq_true rfl) (σ' := (σ, xf_I τ 17 v)) rfl hd kk
theorem xg_MO_dead (hX : xf_ok X l own cc nL fr lo (xw_W P) D tys) (np : Nat) (hp : pc + 3 = np) (hl : Cond.fieldLink own idx (xnT_MO 37).1 (xnT_MO 37).2.1 (xnT_MO 37).2.2.1 ∈ xf_GW) (hd : decode cc pc = .ok (.getfield idx, 3)) (kk : xf_V X np L (.int (τ.1 18) :: st) (σ, τ)) : xf_V X pc L (.ref (xw_a P 100) :: st) (σ, τ) := xf_get hX np hp xin_MO 21 rfl rfl 37 (by decide) hl rfl hd kk
theorem xp_MO_dead (hX : xf_ok X l own cc nL fr lo (xw_W P) D tys) (np : Nat) (hp : pc + 3 = np) {v : Int32} (hl : Cond.fieldLink own idx (xnT_MO 37).1 (xnT_MO 37).2.1 (xnT_MO 37).2.2.1 ∈ xf_GW) (hd : decode cc pc = .ok (.putfield idx, 3)) (kk : xf_V X np L st (σ, xf_I τ 18 v)) : xf_V X pc L (.int v :: .ref (xw_a P 100) :: st) (σ, τ) := xf_put hX np hp xin_MO xnK_MO xnO_MO xnM_MO 21 rfl rfl 37 (by decide) hl rfl (by decide +kernel) (Nat.le_of_ble_eq_true rfl) (σ' := (σ, xf_I τ 18 v)) rfl hd kk
def xw_XI : Nat → Bool
  | 5 => true
  | 6 => true
  | 7 => true
  | 8 => true
  | 9 => true
  | 12 => true
  | 14 => true
  | 15 => true
  | 16 => true
  | 17 => true
  | _ => false
theorem xw_XI_or {q : Nat} (hq : xw_XI q = true) : q = 5 ∨ q = 6 ∨ q = 7 ∨ q = 8 ∨ q = 9 ∨ q = 12 ∨ q = 14 ∨ q = 15 ∨ q = 16 ∨ q = 17 := by
  unfold xw_XI at hq
  split at hq <;> first | omega | (cases hq; done)
theorem xaX_iaload (hX : xf_ok X l own cc nL fr lo (xw_W P) D (xw_ty P)) (np : Nat) (hp : pc + 1 = np) {q : Nat} (hq : xw_XI q = true) {i : Int32} (hin : vp_in i (xw_len P q)) (hd : decode cc pc = .ok (.iaload, 1)) (kk : xf_V X np L (.int (σ.2 q i.toNatClampNeg) :: st) (σ, τ)) : xf_V X pc L (.int i :: .ref (xw_a P q) :: st) (σ, τ) := by
  rcases xw_XI_or hq with rfl | rfl | rfl | rfl | rfl | rfl | rfl | rfl | rfl | rfl
  · exact xf_iald hX np hp 5 0 rfl rfl hin hd kk
  · exact xf_iald hX np hp 6 0 rfl rfl hin hd kk
  · exact xf_iald hX np hp 7 0 rfl rfl hin hd kk
  · exact xf_iald hX np hp 8 0 rfl rfl hin hd kk
  · exact xf_iald hX np hp 9 0 rfl rfl hin hd kk
  · exact xf_iald hX np hp 12 0 rfl rfl hin hd kk
  · exact xf_iald hX np hp 14 0 rfl rfl hin hd kk
  · exact xf_iald hX np hp 15 0 rfl rfl hin hd kk
  · exact xf_iald hX np hp 16 0 rfl rfl hin hd kk
  · exact xf_iald hX np hp 17 0 rfl rfl hin hd kk
theorem xaX_iastore (hX : xf_ok X l own cc nL fr lo (xw_W P) D (xw_ty P)) (np : Nat) (hp : pc + 1 = np) {q : Nat} (hq : xw_XI q = true) {i x : Int32} (hin : vp_in i (xw_len P q)) (hd : decode cc pc = .ok (.iastore, 1)) (kk : xf_V X np L st (xf_A σ q i.toNatClampNeg x, τ)) : xf_V X pc L (.int x :: .int i :: .ref (xw_a P q) :: st) (σ, τ) := by
  rcases xw_XI_or hq with rfl | rfl | rfl | rfl | rfl | rfl | rfl | rfl | rfl | rfl
  · exact xf_iast hX np hp 5 0 rfl rfl hin hd (σ' := (xf_A σ 5 i.toNatClampNeg x, τ)) rfl kk
  · exact xf_iast hX np hp 6 0 rfl rfl hin hd (σ' := (xf_A σ 6 i.toNatClampNeg x, τ)) rfl kk
  · exact xf_iast hX np hp 7 0 rfl rfl hin hd (σ' := (xf_A σ 7 i.toNatClampNeg x, τ)) rfl kk
  · exact xf_iast hX np hp 8 0 rfl rfl hin hd (σ' := (xf_A σ 8 i.toNatClampNeg x, τ)) rfl kk
  · exact xf_iast hX np hp 9 0 rfl rfl hin hd (σ' := (xf_A σ 9 i.toNatClampNeg x, τ)) rfl kk
  · exact xf_iast hX np hp 12 0 rfl rfl hin hd (σ' := (xf_A σ 12 i.toNatClampNeg x, τ)) rfl kk
  · exact xf_iast hX np hp 14 0 rfl rfl hin hd (σ' := (xf_A σ 14 i.toNatClampNeg x, τ)) rfl kk
  · exact xf_iast hX np hp 15 0 rfl rfl hin hd (σ' := (xf_A σ 15 i.toNatClampNeg x, τ)) rfl kk
  · exact xf_iast hX np hp 16 0 rfl rfl hin hd (σ' := (xf_A σ 16 i.toNatClampNeg x, τ)) rfl kk
  · exact xf_iast hX np hp 17 0 rfl rfl hin hd (σ' := (xf_A σ 17 i.toNatClampNeg x, τ)) rfl kk
def xw_XZ : Nat → Bool
  | 10 => true
  | 11 => true
  | _ => false
theorem xw_XZ_or {q : Nat} (hq : xw_XZ q = true) : q = 10 ∨ q = 11 := by
  unfold xw_XZ at hq
  split at hq <;> first | omega | (cases hq; done)
theorem xaX_baload (hX : xf_ok X l own cc nL fr lo (xw_W P) D (xw_ty P)) (np : Nat) (hp : pc + 1 = np) {q : Nat} (hq : xw_XZ q = true) {i : Int32} (hin : vp_in i (xw_len P q)) (hd : decode cc pc = .ok (.baload, 1)) (kk : xf_V X np L (.int (σ.2 q i.toNatClampNeg) :: st) (σ, τ)) : xf_V X pc L (.int i :: .ref (xw_a P q) :: st) (σ, τ) := by
  rcases xw_XZ_or hq with rfl | rfl
  · exact xf_zald hX np hp 10 1 rfl rfl hin hd kk
  · exact xf_zald hX np hp 11 1 rfl rfl hin hd kk
theorem xaX_bastore (hX : xf_ok X l own cc nL fr lo (xw_W P) D (xw_ty P)) (np : Nat) (hp : pc + 1 = np) {q : Nat} (hq : xw_XZ q = true) {i x : Int32} (hin : vp_in i (xw_len P q)) (hz : vp_nar .boolean x = x) (hd : decode cc pc = .ok (.bastore, 1)) (kk : xf_V X np L st (xf_A σ q i.toNatClampNeg x, τ)) : xf_V X pc L (.int x :: .int i :: .ref (xw_a P q) :: st) (σ, τ) := by
  rcases xw_XZ_or hq with rfl | rfl
  · exact xf_zast hX np hp 10 1 rfl rfl hin hz hd (σ' := (xf_A σ 10 i.toNatClampNeg x, τ)) rfl kk
  · exact xf_zast hX np hp 11 1 rfl rfl hin hz hd (σ' := (xf_A σ 11 i.toNatClampNeg x, τ)) rfl kk
theorem xaX_alen (hX : xf_ok X l own cc nL fr lo (xw_W P) D (xw_ty P)) (np : Nat) (hp : pc + 1 = np) {q : Nat} (hq : xw_XI q = true) (hd : decode cc pc = .ok (.arraylength, 1)) (kk : xf_V X np L (.int (nI (xw_len P q)) :: st) (σ, τ)) : xf_V X pc L (.ref (xw_a P q) :: st) (σ, τ) := by
  rcases xw_XI_or hq with rfl | rfl | rfl | rfl | rfl | rfl | rfl | rfl | rfl | rfl
  · exact xf_alen hX np hp 5 0 rfl rfl rfl hd kk
  · exact xf_alen hX np hp 6 0 rfl rfl rfl hd kk
  · exact xf_alen hX np hp 7 0 rfl rfl rfl hd kk
  · exact xf_alen hX np hp 8 0 rfl rfl rfl hd kk
  · exact xf_alen hX np hp 9 0 rfl rfl rfl hd kk
  · exact xf_alen hX np hp 12 0 rfl rfl rfl hd kk
  · exact xf_alen hX np hp 14 0 rfl rfl rfl hd kk
  · exact xf_alen hX np hp 15 0 rfl rfl rfl hd kk
  · exact xf_alen hX np hp 16 0 rfl rfl rfl hd kk
  · exact xf_alen hX np hp 17 0 rfl rfl rfl hd kk
def xw_MI : Nat → Bool
  | 1 => true
  | 3 => true
  | 4 => true
  | 5 => true
  | 6 => true
  | 8 => true
  | 9 => true
  | 10 => true
  | 11 => true
  | 12 => true
  | 13 => true
  | 14 => true
  | 15 => true
  | 16 => true
  | 17 => true
  | _ => false
theorem xw_MI_or {q : Nat} (hq : xw_MI q = true) : q = 1 ∨ q = 3 ∨ q = 4 ∨ q = 5 ∨ q = 6 ∨ q = 8 ∨ q = 9 ∨ q = 10 ∨ q = 11 ∨ q = 12 ∨ q = 13 ∨ q = 14 ∨ q = 15 ∨ q = 16 ∨ q = 17 := by
  unfold xw_MI at hq
  split at hq <;> first | omega | (cases hq; done)
theorem xaM_iaload (hX : xf_ok X l own cc nL fr lo (xw_W P) D (xw_ty P)) (np : Nat) (hp : pc + 1 = np) {q : Nat} (hq : xw_MI q = true) {i : Int32} (hin : vp_in i (xw_len P (q + 100))) (hd : decode cc pc = .ok (.iaload, 1)) (kk : xf_V X np L (.int (τ.2 q i.toNatClampNeg) :: st) (σ, τ)) : xf_V X pc L (.int i :: .ref (xw_a P (q + 100)) :: st) (σ, τ) := by
  rcases xw_MI_or hq with rfl | rfl | rfl | rfl | rfl | rfl | rfl | rfl | rfl | rfl | rfl | rfl | rfl | rfl | rfl
  · exact xf_iald hX np hp 22 0 rfl rfl hin hd kk
  · exact xf_iald hX np hp 24 0 rfl rfl hin hd kk
  · exact xf_iald hX np hp 25 0 rfl rfl hin hd kk
  · exact xf_iald hX np hp 26 0 rfl rfl hin hd kk
  · exact xf_iald hX np hp 27 0 rfl rfl hin hd kk
  · exact xf_iald hX np hp 29 0 rfl rfl hin hd kk
  · exact xf_iald hX np hp 30 0 rfl rfl hin hd kk
  · exact xf_iald hX np hp 31 0 rfl rfl hin hd kk
  · exact xf_iald hX np hp 32 0 rfl rfl hin hd kk
  · exact xf_iald hX np hp 33 0 rfl rfl hin hd kk
  · exact xf_iald hX np hp 34 0 rfl rfl hin hd kk
  · exact xf_iald hX np hp 35 0 rfl rfl hin hd kk
  · exact xf_iald hX np hp 36 0 rfl rfl hin hd kk
  · exact xf_iald hX np hp 37 0 rfl rfl hin hd kk
  · exact xf_iald hX np hp 38 0 rfl rfl hin hd kk
theorem xaM_iastore (hX : xf_ok X l own cc nL fr lo (xw_W P) D (xw_ty P)) (np : Nat) (hp : pc + 1 = np) {q : Nat} (hq : xw_MI q = true) {i x : Int32} (hin : vp_in i (xw_len P (q + 100))) (hd : decode cc pc = .ok (.iastore, 1)) (kk : xf_V X np L st (σ, xf_A τ q i.toNatClampNeg x)) : xf_V X pc L (.int x :: .int i :: .ref (xw_a P (q + 100)) :: st) (σ, τ) := by
  rcases xw_MI_or hq with rfl | rfl | rfl | rfl | rfl | rfl | rfl | rfl | rfl | rfl | rfl | rfl | rfl | rfl | rfl
  · exact xf_iast hX np hp 22 0 rfl rfl hin hd (σ' := (σ, xf_A τ 1 i.toNatClampNeg x)) rfl kk
  · exact xf_iast hX np hp 24 0 rfl rfl hin hd (σ' := (σ, xf_A τ 3 i.toNatClampNeg x)) rfl kk
  · exact xf_iast hX np hp 25 0 rfl rfl hin hd (σ' := (σ, xf_A τ 4 i.toNatClampNeg x)) rfl kk
  · exact xf_iast hX np hp 26 0 rfl rfl hin hd (σ' := (σ, xf_A τ 5 i.toNatClampNeg x)) rfl kk
  · exact xf_iast hX np hp 27 0 rfl rfl hin hd (σ' := (σ, xf_A τ 6 i.toNatClampNeg x)) rfl kk
  · exact xf_iast hX np hp 29 0 rfl rfl hin hd (σ' := (σ, xf_A τ 8 i.toNatClampNeg x)) rfl kk
  · exact xf_iast hX np hp 30 0 rfl rfl hin hd (σ' := (σ, xf_A τ 9 i.toNatClampNeg x)) rfl kk
  · exact xf_iast hX np hp 31 0 rfl rfl hin hd (σ' := (σ, xf_A τ 10 i.toNatClampNeg x)) rfl kk
  · exact xf_iast hX np hp 32 0 rfl rfl hin hd (σ' := (σ, xf_A τ 11 i.toNatClampNeg x)) rfl kk
  · exact xf_iast hX np hp 33 0 rfl rfl hin hd (σ' := (σ, xf_A τ 12 i.toNatClampNeg x)) rfl kk
  · exact xf_iast hX np hp 34 0 rfl rfl hin hd (σ' := (σ, xf_A τ 13 i.toNatClampNeg x)) rfl kk
  · exact xf_iast hX np hp 35 0 rfl rfl hin hd (σ' := (σ, xf_A τ 14 i.toNatClampNeg x)) rfl kk
  · exact xf_iast hX np hp 36 0 rfl rfl hin hd (σ' := (σ, xf_A τ 15 i.toNatClampNeg x)) rfl kk
  · exact xf_iast hX np hp 37 0 rfl rfl hin hd (σ' := (σ, xf_A τ 16 i.toNatClampNeg x)) rfl kk
  · exact xf_iast hX np hp 38 0 rfl rfl hin hd (σ' := (σ, xf_A τ 17 i.toNatClampNeg x)) rfl kk
def xw_MZ : Nat → Bool
  | 2 => true
  | 7 => true
  | _ => false
theorem xw_MZ_or {q : Nat} (hq : xw_MZ q = true) : q = 2 ∨ q = 7 := by
  unfold xw_MZ at hq
  split at hq <;> first | omega | (cases hq; done)
theorem xaM_baload (hX : xf_ok X l own cc nL fr lo (xw_W P) D (xw_ty P)) (np : Nat) (hp : pc + 1 = np) {q : Nat} (hq : xw_MZ q = true) {i : Int32} (hin : vp_in i (xw_len P (q + 100))) (hd : decode cc pc = .ok (.baload, 1)) (kk : xf_V X np L (.int (τ.2 q i.toNatClampNeg) :: st) (σ, τ)) : xf_V X pc L (.int i :: .ref (xw_a P (q + 100)) :: st) (σ, τ) := by
  rcases xw_MZ_or hq with rfl | rfl
  · exact xf_zald hX np hp 23 1 rfl rfl hin hd kk
  · exact xf_zald hX np hp 28 1 rfl rfl hin hd kk
theorem xaM_bastore (hX : xf_ok X l own cc nL fr lo (xw_W P) D (xw_ty P)) (np : Nat) (hp : pc + 1 = np) {q : Nat} (hq : xw_MZ q = true) {i x : Int32} (hin : vp_in i (xw_len P (q + 100))) (hz : vp_nar .boolean x = x) (hd : decode cc pc = .ok (.bastore, 1)) (kk : xf_V X np L st (σ, xf_A τ q i.toNatClampNeg x)) : xf_V X pc L (.int x :: .int i :: .ref (xw_a P (q + 100)) :: st) (σ, τ) := by
  rcases xw_MZ_or hq with rfl | rfl
  · exact xf_zast hX np hp 23 1 rfl rfl hin hz hd (σ' := (σ, xf_A τ 2 i.toNatClampNeg x)) rfl kk
  · exact xf_zast hX np hp 28 1 rfl rfl hin hz hd (σ' := (σ, xf_A τ 7 i.toNatClampNeg x)) rfl kk
theorem xaM_alen (hX : xf_ok X l own cc nL fr lo (xw_W P) D (xw_ty P)) (np : Nat) (hp : pc + 1 = np) {q : Nat} (hq : xw_MI q = true) (hd : decode cc pc = .ok (.arraylength, 1)) (kk : xf_V X np L (.int (nI (xw_len P (q + 100))) :: st) (σ, τ)) : xf_V X pc L (.ref (xw_a P (q + 100)) :: st) (σ, τ) := by
  rcases xw_MI_or hq with rfl | rfl | rfl | rfl | rfl | rfl | rfl | rfl | rfl | rfl | rfl | rfl | rfl | rfl | rfl
  · exact xf_alen hX np hp 22 0 rfl rfl rfl hd kk
  · exact xf_alen hX np hp 24 0 rfl rfl rfl hd kk
  · exact xf_alen hX np hp 25 0 rfl rfl rfl hd kk
  · exact xf_alen hX np hp 26 0 rfl rfl rfl hd kk
  · exact xf_alen hX np hp 27 0 rfl rfl rfl hd kk
  · exact xf_alen hX np hp 29 0 rfl rfl rfl hd kk
  · exact xf_alen hX np hp 30 0 rfl rfl rfl hd kk
  · exact xf_alen hX np hp 31 0 rfl rfl rfl hd kk
  · exact xf_alen hX np hp 32 0 rfl rfl rfl hd kk
  · exact xf_alen hX np hp 33 0 rfl rfl rfl hd kk
  · exact xf_alen hX np hp 34 0 rfl rfl rfl hd kk
  · exact xf_alen hX np hp 35 0 rfl rfl rfl hd kk
  · exact xf_alen hX np hp 36 0 rfl rfl rfl hd kk
  · exact xf_alen hX np hp 37 0 rfl rfl rfl hd kk
  · exact xf_alen hX np hp 38 0 rfl rfl rfl hd kk
theorem xaX_aaload (hX : xf_ok X l own cc nL fr lo (xw_W P) D (xw_ty P)) (np : Nat) (hp : pc + 1 = np) (h4 : (4 : Nat) = 4) {i : Int32} (hin : vp_in i 3) (hd : decode cc pc = .ok (.aaload, 1)) (kk : xf_V X np L (.ref (xw_a P (18 + i.toNatClampNeg)) :: st) (σ, τ)) : xf_V X pc L (.int i :: .ref (xw_a P 4) :: st) (σ, τ) := xf_aald hX np hp 4 2 rfl rfl hin hd rfl kk
end XWF
