/-! The frame of all walks: one world function, a body's judgement xf_V, contracts xf_M over all words of the tables. -/
abbrev xf_T : Type := (Nat → Int32) × (Nat → Nat → Int32)
/-- the class's numbers, and the reference's -/
abbrev xf_S : Type := xf_T × xf_T
/-- a scalar is set -/
def xf_I (σ : xf_T) (k : Nat) (v : Int32) : xf_T := (upd σ.1 k v, σ.2)
/-- an element of array j is set -/
def xf_A (σ : xf_T) (j i : Nat) (v : Int32) : xf_T := (σ.1, fun k => if k = j then upd (σ.2 j) i v else σ.2 k)
def xf_nest : Cond → Bool
  | .methodLinkNest .. => true
  | .fieldLinkNest .. => true
  | _ => false
def xf_GW : List Cond := lw_tbl.filter goodWord
def xf_NL : List Cond := lw_tbl.filter xf_nest
def xf_NW (U : State) : Prop := ∀ w ∈ xf_NL, va_Nw w U
theorem xf_NW_warm {s U : State} (hW : s.WarmedH U.vm) (h : xf_NW s) : xf_NW U := fun w hw => by
  have hk := (List.mem_filter.mp hw).2
  have h0 := h w hw
  cases w <;> first | exact va_Nw.warmF hW h0 | exact va_Nw.warmM hW h0 | (simp [xf_nest] at hk)
theorem xf_NW_vm {s U : State} (hW : s.vm = U.vm) (h : xf_NW s) : xf_NW U := fun w hw => by
  have hk := (List.mem_filter.mp hw).2
  have h0 := h w hw
  cases w <;> first | exact va_Nw.same rfl hW h0 | (simp [xf_nest] at hk)
theorem xf_good {y : MethodName} {cc : ByteArray} {nL : Nat} {ret : Option FieldType} (h : Cond.code y cc nL ret ∈ xf_GW) : GoodIn xf_GW (.code y cc nL ret :: xf_GW) := by
  intro w hw
  have hg : w ∈ xf_GW := by
    rcases List.mem_cons.mp hw with rfl | h1
    · exact h
    · exact h1
  exact ⟨hg, good_of_word (List.mem_filter.mp hg).2⟩
/-! locals: the k-th entry is what local k holds, if that is known -/
def xf_pr : Nat → List (Option Value) → List (Nat × Value)
  | _, [] => []
  | k, none :: r => xf_pr (k + 1) r
  | k, some v :: r => (k, v) :: xf_pr (k + 1) r
theorem xf_pr_mem : ∀ (L : List (Option Value)) (k : Nat) (q : Nat × Value), q ∈ xf_pr k L ↔ ∃ j, L[j]? = some (some q.2) ∧ q.1 = k + j
  | [], k, q => by simp [xf_pr]
  | none :: r, k, q => by
    rw [xf_pr, xf_pr_mem r (k + 1) q]
    constructor
    · rintro ⟨j, h1, h2⟩
      exact ⟨j + 1, by simpa using h1, by omega⟩
    · rintro ⟨j, h1, h2⟩
      cases j with
      | zero => simp at h1
      | succ j => exact ⟨j, by simpa using h1, by omega⟩
  | some v :: r, k, q => by
    rw [xf_pr, List.mem_cons, xf_pr_mem r (k + 1) q]
    constructor
    · rintro (rfl | ⟨j, h1, h2⟩)
      · exact ⟨0, by simp, by simp⟩
      · exact ⟨j + 1, by simpa using h1, by omega⟩
    · rintro ⟨j, h1, h2⟩
      cases j with
      | zero =>
        left
        obtain ⟨a, b⟩ := q
        simp at h1 h2
        rw [h1, h2]
      | succ j => exact Or.inr ⟨j, by simpa using h1, by omega⟩
def xf_has (ls : Array Slot) (nL : Nat) (L : List (Option Value)) : Prop := lv_has ls nL (xf_pr 0 L) ∧ ∀ (j : Nat) (v : Value), L[j]? = some (some v) → v.category = 1
theorem xf_has.at {ls : Array Slot} {nL : Nat} {L : List (Option Value)} (h : xf_has ls nL L) {k : Nat} {v : Value} (hk : L[k]? = some (some v)) : ls[k]? = some (.val v) :=
  h.1.2.2 (k, v) ((xf_pr_mem L 0 (k, v)).mpr ⟨k, hk, by simp⟩)
theorem xf_has.set {ls : Array Slot} {nL : Nat} {L : List (Option Value)} {i : Nat} {v : Value} (hL : xf_has ls nL L) (hc : v.category = 1) {ls' : Array Slot} (h' : lv_has ls' nL ((i, v) :: (xf_pr 0 L).filter (fun q => !(q.1 == i) && !(q.1 + 1 == i && q.2.category == 2)))) : xf_has ls' nL (L.set i (some v)) := by
  have key : ∀ (j : Nat) (u : Value), (L.set i (some v))[j]? = some (some u) → (j = i ∧ u = v) ∨ (j ≠ i ∧ L[j]? = some (some u)) := by
    intro j u hj
    by_cases hji : j = i
    · subst hji
      by_cases hl : j < L.length
      · rw [List.getElem?_set_self hl] at hj
        exact Or.inl ⟨rfl, (Option.some.inj (Option.some.inj hj)).symm⟩
      · rw [List.getElem?_eq_none (by simpa using hl)] at hj
        cases hj
    · rw [List.getElem?_set_ne (Ne.symm hji)] at hj
      exact Or.inr ⟨hji, hj⟩
  refine ⟨⟨h'.1, h'.2.1, fun q hq => ?_⟩, fun j u hj => ?_⟩
  · obtain ⟨j, h1, h2⟩ := (xf_pr_mem _ 0 q).mp hq
    have hq1 : q.1 = j := by omega
    rcases key j q.2 h1 with ⟨e1, e2⟩ | ⟨e1, e2⟩
    · have : q = (i, v) := by
        obtain ⟨a, b⟩ := q
        simp at hq1 e2
        rw [hq1, e1, e2]
      rw [this]
      exact h'.2.2 (i, v) List.mem_cons_self
    · refine h'.2.2 q (List.mem_cons_of_mem _ (List.mem_filter.mpr ⟨(xf_pr_mem L 0 q).mpr ⟨j, e2, by omega⟩, ?_⟩))
      have hc1 := hL.2 j q.2 e2
      have : ¬ q.1 = i := by rw [hq1]; exact e1
      simp [this, hc1]
  · rcases key j u hj with ⟨e1, e2⟩ | ⟨e1, e2⟩
    · rw [e2]; exact hc
    · exact hL.2 j u e2
/-! a body's fixed things, in one -/
abbrev xf_C : Type := Program × Launch × Env × Room × State × MethodId × Array Value × List Frame × Method × Code × (Nat → Prop) × (State → Prop) × va_G × List (ClassId × FieldType) × (xf_S → va_W) × Nat × Nat × Nat
/-- from here, whatever the heap that holds the world, the machine comes to its end -/
def xf_V (X : xf_C) (pc : Nat) (L : List (Option Value)) (st : List Value) (σ : xf_S) : Prop := match X with
  | (p, l, e, R, s, m, args, below, meth, c, A, Q, D, tys, wf, nL, cells, slots) => ∀ (H : Heap) (locs : List Loc) (ls : Array Slot), va_P D vwCl (wf σ) H → va_D A (wf σ) → va_S A s.heap H locs → xf_has ls nL L → W p l e R s m args below meth c H locs cells slots Q (F0 m pc ls st)
def xf_ok (X : xf_C) (l0 : Launch) (own : String) (cc : ByteArray) (nL0 fr lo : Nat) (wf0 : xf_S → va_W) (D0 : va_G) (tys0 : List (ClassId × FieldType)) : Prop := match X with
  | (p, l, e, R, s, m, args, below, meth, c, A, Q, D, tys, wf, nL, cells, slots) => (l = l0 ∧ nL = nL0 ∧ wf = wf0 ∧ D = D0 ∧ tys = tys0) ∧ p.tables.exec = Jvm.exec ∧ c.code = cc ∧ c.maxLocals = nL ∧ s.vm.findClass own = some m.cls ∧ (∀ w ∈ xf_GW, w.before args s = true) ∧ va_K D vwCl tys s ∧ xf_NW s ∧ (∀ q : Nat, s.heap.size ≤ q → A q) ∧ (R.frames = fr ∧ R.locals = lo) ∧ cells ≤ R.cells ∧ slots ≤ R.slots
def xf_Qc (D : va_G) (tys : List (ClassId × FieldType)) (wf : xf_S → va_W) (A : Nat → Prop) (rq : Option Value → xf_S → Prop) : Array Value → State → Outcome → State → Prop := fun _ st oc t => (∃ (v : Option Value) (u : xf_S), oc = .returned v ∧ rq v u ∧ va_P D vwCl (wf u) t.heap ∧ va_K D vwCl tys t ∧ va_D A (wf u)) ∧ va_F A st t
def xf_end (X : xf_C) (ret : Option FieldType) (rq : Option Value → xf_S → Prop) : Prop := match X with
  | (p, l, e, R, s, m, args, below, meth, c, A, Q, D, tys, wf, nL, cells, slots) => meth.sig.returnType = ret ∧ meth.locks = false ∧ Q = MQ below (xf_Qc D tys wf A rq) args s cells slots A
/-- a contract: from the world σ and the arguments av, the method comes back with rq -/
def xf_M (l : Launch) (y : MethodName) (cc : ByteArray) (nL : Nat) (ret : Option FieldType) (fr lo : Nat) (wf : xf_S → va_W) (D : va_G) (tys : List (ClassId × FieldType)) (av : List Value) (σ : xf_S) (rq : Option Value → xf_S → Prop) : Prop :=
  ∀ sz : Nat, Met l y (.code y cc nL ret :: xf_GW) { frames := fr, cells := 0, slots := 0, locals := lo } (va_Pc av (fun U => U.heap.size = sz ∧ va_P D vwCl (wf σ) U.heap ∧ va_K D vwCl tys U ∧ va_D (fun _ => True) (wf σ) ∧ xf_NW U)) (xf_Qc D tys wf (va_A (wf σ) sz) rq) 0 0 (va_A (wf σ) sz)
/-- a contract that says all: the answer v, the world σ' -/
def xf_F (l : Launch) (y : MethodName) (cc : ByteArray) (nL : Nat) (ret : Option FieldType) (fr lo : Nat) (wf : xf_S → va_W) (D : va_G) (tys : List (ClassId × FieldType)) (av : List Value) (σ : xf_S) (v : Option Value) (σ' : xf_S) : Prop := xf_M l y cc nL ret fr lo wf D tys av σ (fun v' u => v' = v ∧ u = σ')
def xf_cats (L : List (Option Value)) : Bool := L.all (fun o => match o with
  | none => true
  | some v => v.category == 1)
theorem xf_cat {L : List (Option Value)} (h : xf_cats L = true) : ∀ (j : Nat) (v : Value), L[j]? = some (some v) → v.category = 1 := by
  intro j v hj
  have := List.all_eq_true.mp h _ (List.mem_of_getElem? hj)
  simpa using this
theorem xf_start {l : Launch} {y : MethodName} {cc : ByteArray} {nL : Nat} {ret : Option FieldType} {fr lo : Nat} {wf : xf_S → va_W} {D : va_G} {tys : List (ClassId × FieldType)} {av : List Value} {σ : xf_S} {rq : Option Value → xf_S → Prop} {own : String} (L : List (Option Value)) (ho : y.cls = own) (hy : plainName y.cls = true) (hn : (lg_sl av).length ≤ nL) (hL : xf_pr 0 L = lv_args 0 av) (hc : ∀ (j : Nat) (v : Value), L[j]? = some (some v) → v.category = 1)
    (body : ∀ X : xf_C, xf_ok X l own cc nL fr lo wf D tys → xf_end X ret rq → xf_V X 0 L [] σ) : xf_M l y cc nL ret fr lo wf D tys av σ rq := by
  subst ho
  intro sz
  refine Met.ofW (cc := cc) (maxL := nL) (ret := ret) hy rfl ?_
  intro p e s m args below meth c s₁ B hml hv
  obtain ⟨rfl, hsz, hP, hK, hD0, hN⟩ := hv
  subst hsz
  have hD := hD0.self (sz := s.heap.size)
  have hts := atoms_spec (ws := .code y cc nL ret :: xf_GW) B.pre
  have hl := lv_entry av (n := nL) hn
  rw [lg_entry_eq]
  have V := body (p, l, e, (headSpec (.code y cc nL ret :: xf_GW) ({ frames := fr, cells := 0, slots := 0, locals := lo } : Room)).room, s, m, av.toArray, below, meth, c, va_A (wf σ) s.heap.size, _, D, tys, wf, nL, 0, 0) ⟨⟨rfl, rfl, rfl, rfl, rfl⟩, B.exec, B.bytes, hml, findClass_of_methodNamed B.named, fun w hw => hts w (List.mem_cons_of_mem _ hw), hK, hN, fun q h => Or.inr h, ⟨rfl, rfl⟩, Nat.zero_le _, Nat.zero_le _⟩ ⟨B.returns, B.notSynchronized, rfl⟩
  exact V s.heap [] _ hP hD va_S.rf ⟨by rw [hL]; exact hl, hc⟩
section XFR
variable {X : xf_C} {l : Launch} {own : String} {cc : ByteArray} {nL fr lo : Nat} {wf : xf_S → va_W} {D : va_G} {tys : List (ClassId × FieldType)} {pc : Nat} {L : List (Option Value)} {st : List Value} {σ : xf_S}
theorem xf_iconst (hX : xf_ok X l own cc nL fr lo wf D tys) (np : Nat) (hp : pc + 1 = np) {n : Int} (v : Int32) (hd : decode cc pc = .ok (.iconst n, 1)) (hv : Int32.ofInt n = v) (k : xf_V X np L (.int v :: st) σ) : xf_V X pc L st σ := by
  subst hp
  obtain ⟨p, l, e, R, s, m, args, below, meth, c, A, Q, D, tys, wf, nL, cells, slots⟩ := X
  exact fun H locs ls hP hD hS hl => lv_iconst hX.2.1 hX.2.2.1 hd hv (k H locs ls hP hD hS hl)
theorem xf_bipush (hX : xf_ok X l own cc nL fr lo wf D tys) (np : Nat) (hp : pc + 2 = np) {n : Int} (v : Int32) (hd : decode cc pc = .ok (.bipush n, 2)) (hv : (Int8.ofInt n).toInt32 = v) (k : xf_V X np L (.int v :: st) σ) : xf_V X pc L st σ := by
  subst hp
  obtain ⟨p, l, e, R, s, m, args, below, meth, c, A, Q, D, tys, wf, nL, cells, slots⟩ := X
  exact fun H locs ls hP hD hS hl => lv_bipush hX.2.1 hX.2.2.1 hd hv (k H locs ls hP hD hS hl)
theorem xf_sipush (hX : xf_ok X l own cc nL fr lo wf D tys) (np : Nat) (hp : pc + 3 = np) {n : Int} (v : Int32) (hd : decode cc pc = .ok (.sipush n, 3)) (hv : (Int16.ofInt n).toInt32 = v) (k : xf_V X np L (.int v :: st) σ) : xf_V X pc L st σ := by
  subst hp
  obtain ⟨p, l, e, R, s, m, args, below, meth, c, A, Q, D, tys, wf, nL, cells, slots⟩ := X
  exact fun H locs ls hP hD hS hl => lv_sipush hX.2.1 hX.2.2.1 hd hv (k H locs ls hP hD hS hl)
theorem xf_ldc (hX : xf_ok X l own cc nL fr lo wf D tys) (np : Nat) (hp : pc + 2 = np) {idx : Nat} {v : Int32} (hw : Cond.constant own idx v ∈ xf_GW) (hd : decode cc pc = .ok (.ldc idx, 2)) (k : xf_V X np L (.int v :: st) σ) : xf_V X pc L st σ := by
  subst hp
  obtain ⟨p, l, e, R, s, m, args, below, meth, c, A, Q, D, tys, wf, nL, cells, slots⟩ := X
  exact fun H locs ls hP hD hS hl => lv_ldc hX.2.1 hX.2.2.1 hX.2.2.2.2.1 (hX.2.2.2.2.2.1 _ hw) hd (k H locs ls hP hD hS hl)
theorem xf_iload_n (hX : xf_ok X l own cc nL fr lo wf D tys) (np : Nat) (hp : pc + 1 = np) {k : Fin 4} (i : Nat) {x : Int32} (hd : decode cc pc = .ok (.iload_n k, 1)) (hi : (k : Nat) = i) (hk : L[i]? = some (some (.int x))) (kk : xf_V X np L (.int x :: st) σ) : xf_V X pc L st σ := by
  subst hp
  obtain ⟨p, l, e, R, s, m, args, below, meth, c, A, Q, D, tys, wf, nL, cells, slots⟩ := X
  exact fun H locs ls hP hD hS hl => lv_iload_n hX.2.1 hX.2.2.1 hd hi (hl.at hk) (kk H locs ls hP hD hS hl)
theorem xf_iload (hX : xf_ok X l own cc nL fr lo wf D tys) (np : Nat) (hp : pc + 2 = np) {i : Nat} {x : Int32} (hd : decode cc pc = .ok (.iload i, 2)) (hk : L[i]? = some (some (.int x))) (kk : xf_V X np L (.int x :: st) σ) : xf_V X pc L st σ := by
  subst hp
  obtain ⟨p, l, e, R, s, m, args, below, meth, c, A, Q, D, tys, wf, nL, cells, slots⟩ := X
  exact fun H locs ls hP hD hS hl => lv_iload hX.2.1 hX.2.2.1 hd (hl.at hk) (kk H locs ls hP hD hS hl)
theorem xf_aload_n (hX : xf_ok X l own cc nL fr lo wf D tys) (np : Nat) (hp : pc + 1 = np) {k : Fin 4} (i : Nat) {x : Nat} (hd : decode cc pc = .ok (.aload_n k, 1)) (hi : (k : Nat) = i) (hk : L[i]? = some (some (.ref x))) (kk : xf_V X np L (.ref x :: st) σ) : xf_V X pc L st σ := by
  subst hp
  obtain ⟨p, l, e, R, s, m, args, below, meth, c, A, Q, D, tys, wf, nL, cells, slots⟩ := X
  exact fun H locs ls hP hD hS hl => lv_aload_n hX.2.1 hX.2.2.1 hd hi (hl.at hk) (kk H locs ls hP hD hS hl)
theorem xf_aload (hX : xf_ok X l own cc nL fr lo wf D tys) (np : Nat) (hp : pc + 2 = np) {i : Nat} {x : Nat} (hd : decode cc pc = .ok (.aload i, 2)) (hk : L[i]? = some (some (.ref x))) (kk : xf_V X np L (.ref x :: st) σ) : xf_V X pc L st σ := by
  subst hp
  obtain ⟨p, l, e, R, s, m, args, below, meth, c, A, Q, D, tys, wf, nL, cells, slots⟩ := X
  exact fun H locs ls hP hD hS hl => lv_aload hX.2.1 hX.2.2.1 hd (hl.at hk) (kk H locs ls hP hD hS hl)
theorem xf_istore_n (hX : xf_ok X l own cc nL fr lo wf D tys) (np : Nat) (hp : pc + 1 = np) {k : Fin 4} (i : Nat) {x : Int32} (hd : decode cc pc = .ok (.istore_n k, 1)) (hi : (k : Nat) = i) (hn : i < nL) (kk : xf_V X np (L.set i (some (.int x))) st σ) : xf_V X pc L (.int x :: st) σ := by
  subst hp
  obtain ⟨p, l, e, R, s, m, args, below, meth, c, A, Q, D, tys, wf, nL', cells, slots⟩ := X
  obtain ⟨⟨h1, h2, h3, h4, h5⟩, hx, hb, -⟩ := hX
  subst h2
  exact fun H locs ls hP hD hS hl => lv_istore_n hx hb hd hi hl.1 hn rfl (fun ls' h' => kk H locs ls' hP hD hS (hl.set rfl h'))
theorem xf_istore (hX : xf_ok X l own cc nL fr lo wf D tys) (np : Nat) (hp : pc + 2 = np) {i : Nat} {x : Int32} (hd : decode cc pc = .ok (.istore i, 2)) (hn : i < nL) (kk : xf_V X np (L.set i (some (.int x))) st σ) : xf_V X pc L (.int x :: st) σ := by
  subst hp
  obtain ⟨p, l, e, R, s, m, args, below, meth, c, A, Q, D, tys, wf, nL', cells, slots⟩ := X
  obtain ⟨⟨h1, h2, h3, h4, h5⟩, hx, hb, -⟩ := hX
  subst h2
  exact fun H locs ls hP hD hS hl => lv_istore hx hb hd hl.1 hn rfl (fun ls' h' => kk H locs ls' hP hD hS (hl.set rfl h'))
theorem xf_iinc (hX : xf_ok X l own cc nL fr lo wf D tys) (np : Nat) (hp : pc + 3 = np) {i : Nat} {n : Int} {x : Int32} (v : Int32) (hd : decode cc pc = .ok (.iinc i n, 3)) (hk : L[i]? = some (some (.int x))) (hv : x + Int32.ofInt n = v) (hn : i < nL) (kk : xf_V X np (L.set i (some (.int v))) st σ) : xf_V X pc L st σ := by
  subst hp
  obtain ⟨p, l, e, R, s, m, args, below, meth, c, A, Q, D, tys, wf, nL', cells, slots⟩ := X
  obtain ⟨⟨h1, h2, h3, h4, h5⟩, hx, hb, -⟩ := hX
  subst h2
  intro H locs ls hP hD hS hl
  obtain ⟨k, hk2⟩ := List.getElem?_of_mem ((xf_pr_mem L 0 (i, .int x)).mpr ⟨i, hk, by simp⟩)
  exact lv_iinc hx hb hd hl.1 hk2 hv hn rfl (fun ls' h' => kk H locs ls' hP hD hS (hl.set rfl h'))
theorem xf_iadd (hX : xf_ok X l own cc nL fr lo wf D tys) (np : Nat) (hp : pc + 1 = np) {x y : Int32} (hd : decode cc pc = .ok (.iadd, 1)) (k : xf_V X np L (.int (x + y) :: st) σ) : xf_V X pc L (.int y :: .int x :: st) σ := by
  subst hp
  obtain ⟨p, l, e, R, s, m, args, below, meth, c, A, Q, D, tys, wf, nL, cells, slots⟩ := X
  exact fun H locs ls hP hD hS hl => lv_iadd hX.2.1 hX.2.2.1 hd (k H locs ls hP hD hS hl)
theorem xf_isub (hX : xf_ok X l own cc nL fr lo wf D tys) (np : Nat) (hp : pc + 1 = np) {x y : Int32} (hd : decode cc pc = .ok (.isub, 1)) (k : xf_V X np L (.int (x - y) :: st) σ) : xf_V X pc L (.int y :: .int x :: st) σ := by
  subst hp
  obtain ⟨p, l, e, R, s, m, args, below, meth, c, A, Q, D, tys, wf, nL, cells, slots⟩ := X
  exact fun H locs ls hP hD hS hl => lv_isub hX.2.1 hX.2.2.1 hd (k H locs ls hP hD hS hl)
theorem xf_imul (hX : xf_ok X l own cc nL fr lo wf D tys) (np : Nat) (hp : pc + 1 = np) {x y : Int32} (hd : decode cc pc = .ok (.imul, 1)) (k : xf_V X np L (.int (x * y) :: st) σ) : xf_V X pc L (.int y :: .int x :: st) σ := by
  subst hp
  obtain ⟨p, l, e, R, s, m, args, below, meth, c, A, Q, D, tys, wf, nL, cells, slots⟩ := X
  exact fun H locs ls hP hD hS hl => lv_imul hX.2.1 hX.2.2.1 hd (k H locs ls hP hD hS hl)
theorem xf_iand (hX : xf_ok X l own cc nL fr lo wf D tys) (np : Nat) (hp : pc + 1 = np) {x y : Int32} (hd : decode cc pc = .ok (.iand, 1)) (k : xf_V X np L (.int (x &&& y) :: st) σ) : xf_V X pc L (.int y :: .int x :: st) σ := by
  subst hp
  obtain ⟨p, l, e, R, s, m, args, below, meth, c, A, Q, D, tys, wf, nL, cells, slots⟩ := X
  exact fun H locs ls hP hD hS hl => lv_iand hX.2.1 hX.2.2.1 hd (k H locs ls hP hD hS hl)
theorem xf_ixor (hX : xf_ok X l own cc nL fr lo wf D tys) (np : Nat) (hp : pc + 1 = np) {x y : Int32} (hd : decode cc pc = .ok (.ixor, 1)) (k : xf_V X np L (.int (x ^^^ y) :: st) σ) : xf_V X pc L (.int y :: .int x :: st) σ := by
  subst hp
  obtain ⟨p, l, e, R, s, m, args, below, meth, c, A, Q, D, tys, wf, nL, cells, slots⟩ := X
  exact fun H locs ls hP hD hS hl => lv_ixor hX.2.1 hX.2.2.1 hd (k H locs ls hP hD hS hl)
theorem xf_idiv (hX : xf_ok X l own cc nL fr lo wf D tys) (np : Nat) (hp : pc + 1 = np) {x y : Int32} (hd : decode cc pc = .ok (.idiv, 1)) (h0 : ¬ y = 0) (k : xf_V X np L (.int (x / y) :: st) σ) : xf_V X pc L (.int y :: .int x :: st) σ := by
  subst hp
  obtain ⟨p, l, e, R, s, m, args, below, meth, c, A, Q, D, tys, wf, nL, cells, slots⟩ := X
  exact fun H locs ls hP hD hS hl => lv_idiv hX.2.1 hX.2.2.1 hd h0 (k H locs ls hP hD hS hl)
theorem xf_irem (hX : xf_ok X l own cc nL fr lo wf D tys) (np : Nat) (hp : pc + 1 = np) {x y : Int32} (hd : decode cc pc = .ok (.irem, 1)) (h0 : ¬ y = 0) (k : xf_V X np L (.int (x - x / y * y) :: st) σ) : xf_V X pc L (.int y :: .int x :: st) σ := by
  subst hp
  obtain ⟨p, l, e, R, s, m, args, below, meth, c, A, Q, D, tys, wf, nL, cells, slots⟩ := X
  exact fun H locs ls hP hD hS hl => lv_irem hX.2.1 hX.2.2.1 hd h0 (k H locs ls hP hD hS hl)
theorem xf_iushr (hX : xf_ok X l own cc nL fr lo wf D tys) (np : Nat) (hp : pc + 1 = np) {x y : Int32} (hd : decode cc pc = .ok (.iushr, 1)) (k : xf_V X np L (.int (x.toUInt32 >>> (y.toUInt32 &&& Int32.toUInt32 31)).toInt32 :: st) σ) : xf_V X pc L (.int y :: .int x :: st) σ := by
  subst hp
  obtain ⟨p, l, e, R, s, m, args, below, meth, c, A, Q, D, tys, wf, nL, cells, slots⟩ := X
  exact fun H locs ls hP hD hS hl => lv_iushr hX.2.1 hX.2.2.1 hd rfl (k H locs ls hP hD hS hl)
theorem xf_dup (hX : xf_ok X l own cc nL fr lo wf D tys) (np : Nat) (hp : pc + 1 = np) {v : Value} (hd : decode cc pc = .ok (.dup, 1)) (hv : v.category = 1) (k : xf_V X np L (v :: v :: st) σ) : xf_V X pc L (v :: st) σ := by
  subst hp
  obtain ⟨p, l, e, R, s, m, args, below, meth, c, A, Q, D, tys, wf, nL, cells, slots⟩ := X
  exact fun H locs ls hP hD hS hl => lv_dup hX.2.1 hX.2.2.1 hd hv (k H locs ls hP hD hS hl)
theorem xf_dup2 (hX : xf_ok X l own cc nL fr lo wf D tys) (np : Nat) (hp : pc + 1 = np) {v u : Value} (hd : decode cc pc = .ok (.dup2, 1)) (hv : v.category = 1) (hu : u.category = 1) (k : xf_V X np L (v :: u :: v :: u :: st) σ) : xf_V X pc L (v :: u :: st) σ := by
  subst hp
  obtain ⟨p, l, e, R, s, m, args, below, meth, c, A, Q, D, tys, wf, nL, cells, slots⟩ := X
  exact fun H locs ls hP hD hS hl => lv_dup2_11 hX.2.1 hX.2.2.1 hd hv hu (k H locs ls hP hD hS hl)
theorem xf_dup_x1 (hX : xf_ok X l own cc nL fr lo wf D tys) (np : Nat) (hp : pc + 1 = np) {v u : Value} (hd : decode cc pc = .ok (.dup_x1, 1)) (hv : v.category = 1) (hu : u.category = 1) (k : xf_V X np L (v :: u :: v :: st) σ) : xf_V X pc L (v :: u :: st) σ := by
  subst hp
  obtain ⟨p, l, e, R, s, m, args, below, meth, c, A, Q, D, tys, wf, nL, cells, slots⟩ := X
  exact fun H locs ls hP hD hS hl => lv_dup_x1 hX.2.1 hX.2.2.1 hd hv hu (k H locs ls hP hD hS hl)
theorem xf_pop (hX : xf_ok X l own cc nL fr lo wf D tys) (np : Nat) (hp : pc + 1 = np) {v : Value} (hd : decode cc pc = .ok (.pop, 1)) (hv : v.category = 1) (k : xf_V X np L st σ) : xf_V X pc L (v :: st) σ := by
  subst hp
  obtain ⟨p, l, e, R, s, m, args, below, meth, c, A, Q, D, tys, wf, nL, cells, slots⟩ := X
  exact fun H locs ls hP hD hS hl => lv_pop hX.2.1 hX.2.2.1 hd hv (k H locs ls hP hD hS hl)
theorem xf_goto (hX : xf_ok X l own cc nL fr lo wf D tys) {off : Int} (tgt : Nat) (hd : decode cc pc = .ok (.goto off, 3)) (ht : (pc : Int) + off = (tgt : Int)) (k : xf_V X tgt L st σ) : xf_V X pc L st σ := by
  obtain ⟨p, l, e, R, s, m, args, below, meth, c, A, Q, D, tys, wf, nL, cells, slots⟩ := X
  exact fun H locs ls hP hD hS hl => lv_goto hX.2.1 hX.2.2.1 hd ht (k H locs ls hP hD hS hl)
theorem xf_if_eq (hX : xf_ok X l own cc nL fr lo wf D tys) (np : Nat) (hp : pc + 3 = np) {x : Int32} {off : Int} (tgt : Nat) (hd : decode cc pc = .ok (.ifCond .eq off, 3)) (ht : (pc : Int) + off = (tgt : Int)) (kt : x = 0 → xf_V X tgt L st σ) (kf : ¬ x = 0 → xf_V X np L st σ) : xf_V X pc L (.int x :: st) σ := by
  subst hp
  obtain ⟨p, l, e, R, s, m, args, below, meth, c, A, Q, D, tys, wf, nL, cells, slots⟩ := X
  exact fun H locs ls hP hD hS hl => lv_if_eq hX.2.1 hX.2.2.1 hd ht (fun h => kt h H locs ls hP hD hS hl) (fun h => kf h H locs ls hP hD hS hl)
theorem xf_icmp_eq (hX : xf_ok X l own cc nL fr lo wf D tys) (np : Nat) (hp : pc + 3 = np) {x y : Int32} {off : Int} (tgt : Nat) (hd : decode cc pc = .ok (.if_icmp .eq off, 3)) (ht : (pc : Int) + off = (tgt : Int)) (kt : x = y → xf_V X tgt L st σ) (kf : ¬ x = y → xf_V X np L st σ) : xf_V X pc L (.int y :: .int x :: st) σ := by
  subst hp
  obtain ⟨p, l, e, R, s, m, args, below, meth, c, A, Q, D, tys, wf, nL, cells, slots⟩ := X
  exact fun H locs ls hP hD hS hl => lv_icmp_eq hX.2.1 hX.2.2.1 hd ht (fun h => kt h H locs ls hP hD hS hl) (fun h => kf h H locs ls hP hD hS hl)
theorem xf_if_ne (hX : xf_ok X l own cc nL fr lo wf D tys) (np : Nat) (hp : pc + 3 = np) {x : Int32} {off : Int} (tgt : Nat) (hd : decode cc pc = .ok (.ifCond .ne off, 3)) (ht : (pc : Int) + off = (tgt : Int)) (kt : ¬ x = 0 → xf_V X tgt L st σ) (kf : x = 0 → xf_V X np L st σ) : xf_V X pc L (.int x :: st) σ := by
  subst hp
  obtain ⟨p, l, e, R, s, m, args, below, meth, c, A, Q, D, tys, wf, nL, cells, slots⟩ := X
  exact fun H locs ls hP hD hS hl => lv_if_ne hX.2.1 hX.2.2.1 hd ht (fun h => kt h H locs ls hP hD hS hl) (fun h => kf h H locs ls hP hD hS hl)
theorem xf_icmp_ne (hX : xf_ok X l own cc nL fr lo wf D tys) (np : Nat) (hp : pc + 3 = np) {x y : Int32} {off : Int} (tgt : Nat) (hd : decode cc pc = .ok (.if_icmp .ne off, 3)) (ht : (pc : Int) + off = (tgt : Int)) (kt : ¬ x = y → xf_V X tgt L st σ) (kf : x = y → xf_V X np L st σ) : xf_V X pc L (.int y :: .int x :: st) σ := by
  subst hp
  obtain ⟨p, l, e, R, s, m, args, below, meth, c, A, Q, D, tys, wf, nL, cells, slots⟩ := X
  exact fun H locs ls hP hD hS hl => lv_icmp_ne hX.2.1 hX.2.2.1 hd ht (fun h => kt h H locs ls hP hD hS hl) (fun h => kf h H locs ls hP hD hS hl)
theorem xf_if_lt (hX : xf_ok X l own cc nL fr lo wf D tys) (np : Nat) (hp : pc + 3 = np) {x : Int32} {off : Int} (tgt : Nat) (hd : decode cc pc = .ok (.ifCond .lt off, 3)) (ht : (pc : Int) + off = (tgt : Int)) (kt : x < 0 → xf_V X tgt L st σ) (kf : ¬ x < 0 → xf_V X np L st σ) : xf_V X pc L (.int x :: st) σ := by
  subst hp
  obtain ⟨p, l, e, R, s, m, args, below, meth, c, A, Q, D, tys, wf, nL, cells, slots⟩ := X
  exact fun H locs ls hP hD hS hl => lv_if_lt hX.2.1 hX.2.2.1 hd ht (fun h => kt h H locs ls hP hD hS hl) (fun h => kf h H locs ls hP hD hS hl)
theorem xf_icmp_lt (hX : xf_ok X l own cc nL fr lo wf D tys) (np : Nat) (hp : pc + 3 = np) {x y : Int32} {off : Int} (tgt : Nat) (hd : decode cc pc = .ok (.if_icmp .lt off, 3)) (ht : (pc : Int) + off = (tgt : Int)) (kt : x < y → xf_V X tgt L st σ) (kf : ¬ x < y → xf_V X np L st σ) : xf_V X pc L (.int y :: .int x :: st) σ := by
  subst hp
  obtain ⟨p, l, e, R, s, m, args, below, meth, c, A, Q, D, tys, wf, nL, cells, slots⟩ := X
  exact fun H locs ls hP hD hS hl => lv_icmp_lt hX.2.1 hX.2.2.1 hd ht (fun h => kt h H locs ls hP hD hS hl) (fun h => kf h H locs ls hP hD hS hl)
theorem xf_if_ge (hX : xf_ok X l own cc nL fr lo wf D tys) (np : Nat) (hp : pc + 3 = np) {x : Int32} {off : Int} (tgt : Nat) (hd : decode cc pc = .ok (.ifCond .ge off, 3)) (ht : (pc : Int) + off = (tgt : Int)) (kt : 0 ≤ x → xf_V X tgt L st σ) (kf : ¬ 0 ≤ x → xf_V X np L st σ) : xf_V X pc L (.int x :: st) σ := by
  subst hp
  obtain ⟨p, l, e, R, s, m, args, below, meth, c, A, Q, D, tys, wf, nL, cells, slots⟩ := X
  exact fun H locs ls hP hD hS hl => lv_if_ge hX.2.1 hX.2.2.1 hd ht (fun h => kt h H locs ls hP hD hS hl) (fun h => kf h H locs ls hP hD hS hl)
theorem xf_icmp_ge (hX : xf_ok X l own cc nL fr lo wf D tys) (np : Nat) (hp : pc + 3 = np) {x y : Int32} {off : Int} (tgt : Nat) (hd : decode cc pc = .ok (.if_icmp .ge off, 3)) (ht : (pc : Int) + off = (tgt : Int)) (kt : y ≤ x → xf_V X tgt L st σ) (kf : ¬ y ≤ x → xf_V X np L st σ) : xf_V X pc L (.int y :: .int x :: st) σ := by
  subst hp
  obtain ⟨p, l, e, R, s, m, args, below, meth, c, A, Q, D, tys, wf, nL, cells, slots⟩ := X
  exact fun H locs ls hP hD hS hl => lv_icmp_ge hX.2.1 hX.2.2.1 hd ht (fun h => kt h H locs ls hP hD hS hl) (fun h => kf h H locs ls hP hD hS hl)
theorem xf_if_gt (hX : xf_ok X l own cc nL fr lo wf D tys) (np : Nat) (hp : pc + 3 = np) {x : Int32} {off : Int} (tgt : Nat) (hd : decode cc pc = .ok (.ifCond .gt off, 3)) (ht : (pc : Int) + off = (tgt : Int)) (kt : 0 < x → xf_V X tgt L st σ) (kf : ¬ 0 < x → xf_V X np L st σ) : xf_V X pc L (.int x :: st) σ := by
  subst hp
  obtain ⟨p, l, e, R, s, m, args, below, meth, c, A, Q, D, tys, wf, nL, cells, slots⟩ := X
  exact fun H locs ls hP hD hS hl => lv_if_gt hX.2.1 hX.2.2.1 hd ht (fun h => kt h H locs ls hP hD hS hl) (fun h => kf h H locs ls hP hD hS hl)
theorem xf_icmp_gt (hX : xf_ok X l own cc nL fr lo wf D tys) (np : Nat) (hp : pc + 3 = np) {x y : Int32} {off : Int} (tgt : Nat) (hd : decode cc pc = .ok (.if_icmp .gt off, 3)) (ht : (pc : Int) + off = (tgt : Int)) (kt : y < x → xf_V X tgt L st σ) (kf : ¬ y < x → xf_V X np L st σ) : xf_V X pc L (.int y :: .int x :: st) σ := by
  subst hp
  obtain ⟨p, l, e, R, s, m, args, below, meth, c, A, Q, D, tys, wf, nL, cells, slots⟩ := X
  exact fun H locs ls hP hD hS hl => lv_icmp_gt hX.2.1 hX.2.2.1 hd ht (fun h => kt h H locs ls hP hD hS hl) (fun h => kf h H locs ls hP hD hS hl)
theorem xf_if_le (hX : xf_ok X l own cc nL fr lo wf D tys) (np : Nat) (hp : pc + 3 = np) {x : Int32} {off : Int} (tgt : Nat) (hd : decode cc pc = .ok (.ifCond .le off, 3)) (ht : (pc : Int) + off = (tgt : Int)) (kt : x ≤ 0 → xf_V X tgt L st σ) (kf : ¬ x ≤ 0 → xf_V X np L st σ) : xf_V X pc L (.int x :: st) σ := by
  subst hp
  obtain ⟨p, l, e, R, s, m, args, below, meth, c, A, Q, D, tys, wf, nL, cells, slots⟩ := X
  exact fun H locs ls hP hD hS hl => lv_if_le hX.2.1 hX.2.2.1 hd ht (fun h => kt h H locs ls hP hD hS hl) (fun h => kf h H locs ls hP hD hS hl)
theorem xf_icmp_le (hX : xf_ok X l own cc nL fr lo wf D tys) (np : Nat) (hp : pc + 3 = np) {x y : Int32} {off : Int} (tgt : Nat) (hd : decode cc pc = .ok (.if_icmp .le off, 3)) (ht : (pc : Int) + off = (tgt : Int)) (kt : x ≤ y → xf_V X tgt L st σ) (kf : ¬ x ≤ y → xf_V X np L st σ) : xf_V X pc L (.int y :: .int x :: st) σ := by
  subst hp
  obtain ⟨p, l, e, R, s, m, args, below, meth, c, A, Q, D, tys, wf, nL, cells, slots⟩ := X
  exact fun H locs ls hP hD hS hl => lv_icmp_le hX.2.1 hX.2.2.1 hd ht (fun h => kt h H locs ls hP hD hS hl) (fun h => kf h H locs ls hP hD hS hl)
theorem xf_tabOut (hX : xf_ok X l own cc nL fr lo wf D tys) {dflt lw hi : Int} {offs : Array Int} {len : Nat} {x : Int32} (tgt : Nat) (hd : decode cc pc = .ok (.tableswitch dflt lw hi offs, len)) (h : x.toInt < lw ∨ hi < x.toInt) (ht : (pc : Int) + dflt = (tgt : Int)) (k : xf_V X tgt L st σ) : xf_V X pc L (.int x :: st) σ := by
  obtain ⟨p, l, e, R, s, m, args, below, meth, c, A, Q, D, tys, wf, nL, cells, slots⟩ := X
  exact fun H locs ls hP hD hS hl => lv_tableOut hX.2.1 hX.2.2.1 hd h ht (k H locs ls hP hD hS hl)
theorem xf_tabIn (hX : xf_ok X l own cc nL fr lo wf D tys) {dflt lw hi off : Int} {offs : Array Int} {len : Nat} {x : Int32} (tgt : Nat) (hd : decode cc pc = .ok (.tableswitch dflt lw hi offs, len)) (h1 : ¬ x.toInt < lw) (h2 : ¬ hi < x.toInt) (ho : offs[(x.toInt - lw).toNat]? = some off) (ht : (pc : Int) + off = (tgt : Int)) (k : xf_V X tgt L st σ) : xf_V X pc L (.int x :: st) σ := by
  obtain ⟨p, l, e, R, s, m, args, below, meth, c, A, Q, D, tys, wf, nL, cells, slots⟩ := X
  exact fun H locs ls hP hD hS hl => lv_tableIn hX.2.1 hX.2.2.1 hd h1 h2 ho ht (k H locs ls hP hD hS hl)
/-! cells of the world -/
theorem xf_get (hX : xf_ok X l own cc nL fr lo wf D tys) (np : Nat) (hp : pc + 3 = np) {C : String} {T : u_T} {N ci idx a : Nat} (hin : ∀ w ∈ u_ws C T N, w ∈ xf_GW) (q0 : Nat) {fs : List Value} (he : (wf σ)[q0]? = some (a, .inr (ci, fs))) (hc : vwCl[ci]? = some (C, T, N)) (k : Nat) (hk : k < N) (hlink : Cond.fieldLink own idx (T k).1 (T k).2.1 (T k).2.2.1 ∈ xf_GW) {v : Value} (hv : fs[k]? = some v) (hd : decode cc pc = .ok (.getfield idx, 3)) (kk : xf_V X np L (v :: st) σ) : xf_V X pc L (.ref a :: st) σ := by
  subst hp
  obtain ⟨p, l, e, R, s, m, args, below, meth, c, A, Q, D', tys', wf', nL', cells, slots⟩ := X
  obtain ⟨⟨h1, h2, h3, h4, h5⟩, hx, hb, hml, hown, hts, hK, hN, hA, hR, -⟩ := hX
  subst h2 h3 h4 h5
  exact fun H locs ls hP hD hS hl => va_get hx hb hts hin hown hK hP q0 he hc k hk (hts _ hlink) (fun _ h9 => h9) hv hd (kk H locs ls hP hD hS hl)
theorem xf_put (hX : xf_ok X l own cc nL fr lo wf D tys) (np : Nat) (hp : pc + 3 = np) {C : String} {T : u_T} {N ci idx a : Nat} (hin : ∀ w ∈ u_ws C T N, w ∈ xf_GW) (ty0 : Nat → FieldType) (hty : ∀ k, k < N → parseFieldDescriptor (T k).2.2.1 = some (ty0 k)) (hnm : ∀ a, a < N → ∀ b, b < N → a ≠ b → (T a).2.1 ≠ (T b).2.1) (q0 : Nat) {fs : List Value} (he : (wf σ)[q0]? = some (a, .inr (ci, fs))) (hc : vwCl[ci]? = some (C, T, N)) (k : Nat) (hk : k < N) (hlink : Cond.fieldLink own idx (T k).1 (T k).2.1 (T k).2.2.1 ∈ xf_GW) (hfin : (T k).2.2.2 = false) {v : Int32} (hdsc : parseFieldDescriptor (T k).2.2.1 = some .int) (hl9 : k < fs.length) {σ' : xf_S} (hσ : (wf σ).set q0 (a, .inr (ci, fs.set k (.int v))) = wf σ') (hd : decode cc pc = .ok (.putfield idx, 3)) (kk : xf_V X np L st σ') : xf_V X pc L (.int v :: .ref a :: st) σ := by
  subst hp
  obtain ⟨p, l, e, R, s, m, args, below, meth, c, A, Q, D', tys', wf', nL', cells, slots⟩ := X
  obtain ⟨⟨h1, h2, h3, h4, h5⟩, hx, hb, hml, hown, hts, hK, hN, hA, hR, -⟩ := hX
  subst h2 h3 h4 h5
  exact fun H locs ls hP hD hS hl => va_put (v := .int v) hx hb hts hin ty0 hty hnm hown hK hP hD hS q0 he hc k hk (hts _ hlink) (fun _ h9 => h9) hfin hdsc rfl rfl hl9 hd (fun H1 locs1 hP1 hD1 hS1 => kk H1 locs1 ls (hσ ▸ hP1) (hσ ▸ hD1) hS1 hl)
theorem xf_iald (hX : xf_ok X l own cc nL fr lo wf D tys) (np : Nat) (hp : pc + 1 = np) (q0 t0 : Nat) {a : Nat} {cA : ClassId} {n : Nat} {f : Nat → Int32} (ha : (wf σ)[q0]? = some (a, .inl (cA, n, .inl f))) (ht : tys[t0]? = some (cA, .int)) {i : Int32} (hin : vp_in i n) (hd : decode cc pc = .ok (.iaload, 1)) (kk : xf_V X np L (.int (f i.toNatClampNeg) :: st) σ) : xf_V X pc L (.int i :: .ref a :: st) σ := by
  subst hp
  obtain ⟨p, l, e, R, s, m, args, below, meth, c, A, Q, D', tys', wf', nL', cells, slots⟩ := X
  obtain ⟨⟨h1, h2, h3, h4, h5⟩, hx, hb, hml, hown, hts, hK, hN, hA, hR, -⟩ := hX
  subst h2 h3 h4 h5
  exact fun H locs ls hP hD hS hl => va_iald hx hb hK hP q0 t0 ha ht hin hd (kk H locs ls hP hD hS hl)
theorem xf_zald (hX : xf_ok X l own cc nL fr lo wf D tys) (np : Nat) (hp : pc + 1 = np) (q0 t0 : Nat) {a : Nat} {cA : ClassId} {n : Nat} {f : Nat → Int32} (ha : (wf σ)[q0]? = some (a, .inl (cA, n, .inl f))) (ht : tys[t0]? = some (cA, .boolean)) {i : Int32} (hin : vp_in i n) (hd : decode cc pc = .ok (.baload, 1)) (kk : xf_V X np L (.int (f i.toNatClampNeg) :: st) σ) : xf_V X pc L (.int i :: .ref a :: st) σ := by
  subst hp
  obtain ⟨p, l, e, R, s, m, args, below, meth, c, A, Q, D', tys', wf', nL', cells, slots⟩ := X
  obtain ⟨⟨h1, h2, h3, h4, h5⟩, hx, hb, hml, hown, hts, hK, hN, hA, hR, -⟩ := hX
  subst h2 h3 h4 h5
  exact fun H locs ls hP hD hS hl => va_zald hx hb hK hP q0 t0 ha ht hin hd (kk H locs ls hP hD hS hl)
theorem xf_aald (hX : xf_ok X l own cc nL fr lo wf D tys) (np : Nat) (hp : pc + 1 = np) (q0 t0 : Nat) {a : Nat} {cA : ClassId} {C : String} {n : Nat} {f : Nat → Option Nat} (ha : (wf σ)[q0]? = some (a, .inl (cA, n, .inr (.inr (.inr (.inr f)))))) (ht : tys[t0]? = some (cA, .object C)) {i : Int32} (hin : vp_in i n) (hd : decode cc pc = .ok (.aaload, 1)) {v : Value} (hv : va_rf (f i.toNatClampNeg) = v) (kk : xf_V X np L (v :: st) σ) : xf_V X pc L (.int i :: .ref a :: st) σ := by
  subst hp
  obtain ⟨p, l, e, R, s, m, args, below, meth, c, A, Q, D', tys', wf', nL', cells, slots⟩ := X
  obtain ⟨⟨h1, h2, h3, h4, h5⟩, hx, hb, hml, hown, hts, hK, hN, hA, hR, -⟩ := hX
  subst h2 h3 h4 h5 hv
  exact fun H locs ls hP hD hS hl => va_aldq hx hb hK hP q0 t0 ha ht hin hd (kk H locs ls hP hD hS hl)
theorem xf_iast (hX : xf_ok X l own cc nL fr lo wf D tys) (np : Nat) (hp : pc + 1 = np) (q0 t0 : Nat) {a : Nat} {cA : ClassId} {n : Nat} {f : Nat → Int32} (ha : (wf σ)[q0]? = some (a, .inl (cA, n, .inl f))) (ht : tys[t0]? = some (cA, .int)) {i x : Int32} (hin : vp_in i n) (hd : decode cc pc = .ok (.iastore, 1)) {σ' : xf_S} (hσ : (wf σ).set q0 (a, .inl (cA, n, .inl (upd f i.toNatClampNeg x))) = wf σ') (kk : xf_V X np L st σ') : xf_V X pc L (.int x :: .int i :: .ref a :: st) σ := by
  subst hp
  obtain ⟨p, l, e, R, s, m, args, below, meth, c, A, Q, D', tys', wf', nL', cells, slots⟩ := X
  obtain ⟨⟨h1, h2, h3, h4, h5⟩, hx, hb, hml, hown, hts, hK, hN, hA, hR, -⟩ := hX
  subst h2 h3 h4 h5
  exact fun H locs ls hP hD hS hl => va_iast hx hb hK hP hD hS q0 t0 ha ht hin hd (fun H1 locs1 hP1 hD1 hS1 => kk H1 locs1 ls (hσ ▸ hP1) (hσ ▸ hD1) hS1 hl)
theorem xf_zast (hX : xf_ok X l own cc nL fr lo wf D tys) (np : Nat) (hp : pc + 1 = np) (q0 t0 : Nat) {a : Nat} {cA : ClassId} {n : Nat} {f : Nat → Int32} (ha : (wf σ)[q0]? = some (a, .inl (cA, n, .inl f))) (ht : tys[t0]? = some (cA, .boolean)) {i x : Int32} (hin : vp_in i n) (hx0 : vp_nar .boolean x = x) (hd : decode cc pc = .ok (.bastore, 1)) {σ' : xf_S} (hσ : (wf σ).set q0 (a, .inl (cA, n, .inl (upd f i.toNatClampNeg x))) = wf σ') (kk : xf_V X np L st σ') : xf_V X pc L (.int x :: .int i :: .ref a :: st) σ := by
  subst hp
  obtain ⟨p, l, e, R, s, m, args, below, meth, c, A, Q, D', tys', wf', nL', cells, slots⟩ := X
  obtain ⟨⟨h1, h2, h3, h4, h5⟩, hx, hb, hml, hown, hts, hK, hN, hA, hR, -⟩ := hX
  subst h2 h3 h4 h5
  exact fun H locs ls hP hD hS hl => va_zast hx hb hK hP hD hS q0 t0 ha ht hin hd (fun H1 locs1 hP1 hD1 hS1 => by rw [hx0] at hP1 hD1; exact kk H1 locs1 ls (hσ ▸ hP1) (hσ ▸ hD1) hS1 hl)
theorem xf_alen (hX : xf_ok X l own cc nL fr lo wf D tys) (np : Nat) (hp : pc + 1 = np) (q0 t0 : Nat) {a : Nat} {cA : ClassId} {x : vp_A} (ha : (wf σ)[q0]? = some (a, .inl (cA, x))) {ty : FieldType} (ht : tys[t0]? = some (cA, ty)) {v : Int32} (hv : Int32.ofNat x.1 = v) (hd : decode cc pc = .ok (.arraylength, 1)) (kk : xf_V X np L (.int v :: st) σ) : xf_V X pc L (.ref a :: st) σ := by
  subst hp
  obtain ⟨p, l, e, R, s, m, args, below, meth, c, A, Q, D', tys', wf', nL', cells, slots⟩ := X
  obtain ⟨⟨h1, h2, h3, h4, h5⟩, hx, hb, hml, hown, hts, hK, hN, hA, hR, -⟩ := hX
  subst h2 h3 h4 h5
  exact fun H locs ls hP hD hS hl => va_alen hx hb hK hP q0 t0 ha ht hv hd (kk H locs ls hP hD hS hl)
/-! ends -/
variable {r : Int32} {σ' : xf_S} {rq : Option Value → xf_S → Prop}
theorem xf_iret (hX : xf_ok X l own cc nL fr lo wf D tys) (hE : xf_end X (some .int) rq) (hd : decode cc pc = .ok (.ireturn, 1)) (h : rq (some (.int r)) σ) : xf_V X pc L [.int r] σ := by
  obtain ⟨p, l, e, R, s, m, args, below, meth, c, A, Q, D', tys', wf', nL', cells, slots⟩ := X
  obtain ⟨⟨h1, h2, h3, h4, h5⟩, hx, hb, hml, hown, hts, hK, hN, hA, hR, -⟩ := hX
  obtain ⟨hr, hlk, hQ⟩ := hE
  subst h2 h3 h4 h5 hQ
  exact fun H locs ls hP hD hS hl => W.iret hx hb hr (fun t ht hW => ⟨⟨_, σ, rfl, h, by rw [ht]; exact hP, va_K.moved hW.alike hK, hD⟩, hS.F ht⟩) hS.2.2 hd hlk
theorem xf_zret (hX : xf_ok X l own cc nL fr lo wf D tys) (hE : xf_end X (some .boolean) rq) (hd : decode cc pc = .ok (.ireturn, 1)) (hz : narrow .boolean (.int r) = .int r) (h : rq (some (.int r)) σ) : xf_V X pc L [.int r] σ := by
  obtain ⟨p, l, e, R, s, m, args, below, meth, c, A, Q, D', tys', wf', nL', cells, slots⟩ := X
  obtain ⟨⟨h1, h2, h3, h4, h5⟩, hx, hb, hml, hown, hts, hK, hN, hA, hR, -⟩ := hX
  obtain ⟨hr, hlk, hQ⟩ := hE
  subst h2 h3 h4 h5 hQ
  exact fun H locs ls hP hD hS hl => W.zret hx hb hr hz (fun t ht hW => ⟨⟨_, σ, rfl, h, by rw [ht]; exact hP, va_K.moved hW.alike hK, hD⟩, hS.F ht⟩) hS.2.2 hd hlk
theorem xf_vret (hX : xf_ok X l own cc nL fr lo wf D tys) (hE : xf_end X none rq) (hd : decode cc pc = .ok (.return_, 1)) (h : rq none σ) : xf_V X pc L [] σ := by
  obtain ⟨p, l, e, R, s, m, args, below, meth, c, A, Q, D', tys', wf', nL', cells, slots⟩ := X
  obtain ⟨⟨h1, h2, h3, h4, h5⟩, hx, hb, hml, hown, hts, hK, hN, hA, hR, -⟩ := hX
  obtain ⟨hr, hlk, hQ⟩ := hE
  subst h2 h3 h4 h5 hQ
  exact fun H locs ls hP hD hS hl => W.vret hx hb hr (fun t ht hW => ⟨⟨_, σ, rfl, h, by rw [ht]; exact hP, va_K.moved hW.alike hK, hD⟩, hS.F ht⟩) hS.2.2 hd hlk
/-! calls -/
/-- what the tables say of a callee -/
def xf_mth (y : MethodName) (cc : ByteArray) (nL : Nat) (ret : Option FieldType) (n : Nat) : Prop := Cond.code y cc nL ret ∈ xf_GW ∧ Cond.initialized y.cls ∈ xf_GW ∧ y.cls ≠ "java/lang/invoke/MethodHandle" ∧ y.cls ≠ "java/lang/invoke/VarHandle" ∧ (parseMethodDescriptor y.desc).map (fun d => d.parameters.length) = some n
def xf_sta (y : MethodName) (cc : ByteArray) (nL : Nat) (ret : Option FieldType) (n : Nat) : Prop := xf_mth y cc nL ret n ∧ Cond.static y ∈ xf_GW
def xf_vir (y : MethodName) (cc : ByteArray) (nL : Nat) (ret : Option FieldType) (n : Nat) : Prop := xf_mth y cc nL ret n ∧ Cond.instanceMethod y ∈ xf_GW ∧ Cond.selects y.cls y y ∈ xf_GW
theorem xf_blind {av : List Value} {sz : Nat} : FrameBlind (va_Pc av (fun U => U.heap.size = sz ∧ va_P D vwCl (wf σ) U.heap ∧ va_K D vwCl tys U ∧ va_D (fun _ => True) (wf σ) ∧ xf_NW U)) := by
  intro a U g mk q
  obtain ⟨q0, q1, qP, qK, qD, qN⟩ := q
  exact ⟨q0, q1, qP, va_K.moved (u := U) (U := U.calling g mk a) (Vm.Alike.refl U.vm) qK, qD, xf_NW_vm (s := U) (U := U.calling g mk a) rfl qN⟩
/-- behind any call: the world that came back -/
theorem xf_back {p : Program} {l : Launch} {e : Env} {R : Room} {s : State} {m : MethodId} {args : Array Value} {below : List Frame} {meth : Method} {c : Code} {H : Heap} {locs : List Loc} {cells slots : Nat} {Q : State → Prop} {A : Nat → Prop} {ls : Array Slot} {st0 rest : List Value} {aa : Array Value}
    (hr : va_Run p l e R s m args below meth c H locs cells slots 0 0 (F0 m pc ls st0) rest (xf_Qc D tys wf (va_A (wf σ) H.size) rq aa) (va_A (wf σ) H.size)) (hD : va_D A (wf σ)) (hS : va_S A s.heap H locs) (hA : ∀ q : Nat, s.heap.size ≤ q → A q)
    (kk : ∀ (v : Option Value) (u : xf_S), rq v u → ∀ (H1 : Heap) (locs1 : List Loc), va_P D vwCl (wf u) H1 → va_D A (wf u) → va_S A s.heap H1 locs1 → W p l e R s m args below meth c H1 locs1 cells slots Q (F0 m (pc + 3) ls (v.toList ++ rest))) : W p l e R s m args below meth c H locs cells slots Q (F0 m pc ls st0) := by
  have hF : ∀ q, va_A (wf σ) H.size q → A q := by
    intro q h
    rcases h with ⟨k, e, h⟩ | h
    · exact hD.2 k (q, e) h
    · exact hA q (Nat.le_trans hS.1 h)
  intro T hT X
  obtain ⟨v, st₀, t, T', L, h0, X', hL, e1, e2, ⟨⟨v', u, hv, hp, hP1, hK1, hD1⟩, hz, hk⟩, st⟩ := hr T hT X
  cases hv
  rw [h0] at hz hk
  obtain ⟨t2, a1, b1⟩ := kk v u hp T'.heap (locs ++ L) (by rw [e1]; exact hP1) (hD1.weaken (fun _ q _ h => hF q.1 h))
    ⟨Nat.le_trans hS.1 (by rw [e1]; exact hz), fun q h1 h2 => by rw [e1, hk q (Nat.lt_of_lt_of_le h1 hS.1) (fun z => h2 (hF q z))]; exact hS.2.1 q h1 h2, fun q hq => by
      rcases List.mem_append.mp hq with h | h
      · exact hS.2.2 q h
      · exact hF _ (hL q h)⟩ T' rfl X'
  exact ⟨t2, st t2 a1, b1⟩
variable {y : MethodName} {cc' : ByteArray} {nL' fr' lo' idx n : Nat} {ret' : Option FieldType} {rest : List Value}
theorem xf_callS (hX : xf_ok X l own cc nL fr lo wf D tys) (np : Nat) (hp : pc + 3 = np) (As : List Value) (rest : List Value) (hM : xf_M l y cc' nL' ret' fr' lo' wf D tys As σ rq) (hy : xf_sta y cc' nL' ret' n) (hl : Cond.methodLink own idx y ∈ xf_GW) (hn : As.length = n) (hst : st = As.reverse ++ rest) (hw : (rest.map fun v => v.category).sum ≤ 8) (hR : fr' + 1 ≤ fr ∧ 8 + (nL' + 11) + lo' ≤ lo) (hd : decode cc pc = .ok (.invokestatic idx, 3))
    (kk : ∀ (v : Option Value) (u : xf_S), rq v u → xf_V X np L (v.toList ++ rest) u) : xf_V X pc L st σ := by
  subst hp
  obtain ⟨p, l, e, R, s, m, args, below, meth, c, A, Q, D', tys', wf', nL0, cells, slots⟩ := X
  obtain ⟨⟨h1, h2, h3, h4, h5⟩, hx, hb, hml, hown, hts, hK, hN, hA, hR0, hc1, hc2⟩ := hX
  subst h1 h2 h3 h4 h5 hst
  obtain ⟨⟨m1, m2, m3, m4, m5⟩, m6⟩ := hy
  intro H locs ls hP hD hS hls
  have cw : CallB R s args own idx y cc' nL' ret' (.code y cc' nL' ret' :: xf_GW) { frames := fr', cells := 0, slots := 0, locals := lo' } 0 0 n :=
    callB_of n hts (xf_good m1) rfl rfl rfl (hts _ m2) (hts _ hl) ⟨m3, m4, m5⟩ (by rw [hR0.1, hR0.2]; exact hR)
  refine xf_back (rest := rest) (va_runS (nL := nL0) (Ts := xf_GW) (As := As) ⟨hx, hb, hml, hown, hts⟩ (hM H.size) ⟨cw, hts _ m6⟩ ⟨xf_blind, fun U hU hW => ⟨rfl, by rw [hU], by rw [hU]; exact hP, va_K.moved hW.alike hK, hD.weaken (fun _ _ _ _ => trivial), xf_NW_warm hW hN⟩⟩ rfl hn hls.1.1 rfl (lv_room hw) hd ⟨hc1, hc2⟩) hD hS hA (fun v u hq H1 locs1 hP1 hD1 hS1 => kk v u hq H1 locs1 ls hP1 hD1 hS1 hls)
theorem xf_callSN (hX : xf_ok X l own cc nL fr lo wf D tys) (np : Nat) (hp : pc + 3 = np) (As : List Value) (rest : List Value) (hM : xf_M l y cc' nL' ret' fr' lo' wf D tys As σ rq) (hy : xf_sta y cc' nL' ret' n) {host : String} (hl : Cond.methodLinkNest own idx y host ∈ xf_NL) (hn : As.length = n) (hst : st = As.reverse ++ rest) (hw : (rest.map fun v => v.category).sum ≤ 8) (hR : fr' + 1 ≤ fr ∧ 8 + (nL' + 11) + lo' ≤ lo) (hd : decode cc pc = .ok (.invokestatic idx, 3))
    (kk : ∀ (v : Option Value) (u : xf_S), rq v u → xf_V X np L (v.toList ++ rest) u) : xf_V X pc L st σ := by
  subst hp
  obtain ⟨p, l, e, R, s, m, args, below, meth, c, A, Q, D', tys', wf', nL0, cells, slots⟩ := X
  obtain ⟨⟨h1, h2, h3, h4, h5⟩, hx, hb, hml, hown, hts, hK, hN, hA, hR0, hc1, hc2⟩ := hX
  subst h1 h2 h3 h4 h5 hst
  obtain ⟨⟨m1, m2, m3, m4, m5⟩, m6⟩ := hy
  intro H locs ls hP hD hS hls
  have cw : va_CN R s args own idx y host cc' nL' ret' (.code y cc' nL' ret' :: xf_GW) { frames := fr', cells := 0, slots := 0, locals := lo' } 0 0 n :=
    va_cnB n hts (xf_good m1) rfl rfl rfl (hN _ hl) (hts _ m2) ⟨m3, m4, m5⟩ (by rw [hR0.1, hR0.2]; exact hR)
  refine xf_back (rest := rest) (va_runSN (nL := nL0) (Ts := xf_GW) (As := As) ⟨hx, hb, hml, hown, hts⟩ (hM H.size) ⟨cw, hts _ m6, trivial⟩ ⟨xf_blind, fun U hU hW => ⟨rfl, by rw [hU], by rw [hU]; exact hP, va_K.moved hW.alike hK, hD.weaken (fun _ _ _ _ => trivial), xf_NW_warm hW hN⟩⟩ rfl hn hls.1.1 rfl (lv_room hw) hd ⟨hc1, hc2⟩) hD hS hA (fun v u hq H1 locs1 hP1 hD1 hS1 => kk v u hq H1 locs1 ls hP1 hD1 hS1 hls)
theorem xf_callV (hX : xf_ok X l own cc nL fr lo wf D tys) (np : Nat) (hp : pc + 3 = np) {b : Nat} (As : List Value) (rest : List Value) (hM : xf_M l y cc' nL' ret' fr' lo' wf D tys (.ref b :: As) σ rq) (hy : xf_vir y cc' nL' ret' n) (hl : Cond.methodLink own idx y ∈ xf_GW) (q0 ci : Nat) {fs : List Value} {r : vw_C} (he : (wf σ)[q0]? = some (b, .inr (ci, fs))) (hc : vwCl[ci]? = some r) (hcy : r.1 = y.cls) (hn : As.length = n) (hst : st = As.reverse ++ .ref b :: rest) (hw : (rest.map fun v => v.category).sum ≤ 8) (hR : fr' + 1 ≤ fr ∧ 8 + (nL' + 11) + lo' ≤ lo) (hd : decode cc pc = .ok (.invokevirtual idx, 3))
    (kk : ∀ (v : Option Value) (u : xf_S), rq v u → xf_V X np L (v.toList ++ rest) u) : xf_V X pc L st σ := by
  subst hp
  obtain ⟨p, l, e, R, s, m, args, below, meth, c, A, Q, D', tys', wf', nL0, cells, slots⟩ := X
  obtain ⟨⟨h1, h2, h3, h4, h5⟩, hx, hb, hml, hown, hts, hK, hN, hA, hR0, hc1, hc2⟩ := hX
  subst h1 h2 h3 h4 h5 hst
  obtain ⟨⟨m1, m2, m3, m4, m5⟩, m6, m7⟩ := hy
  intro H locs ls hP hD hS hls
  have cw : CallB R s args own idx y cc' nL' ret' (.code y cc' nL' ret' :: xf_GW) { frames := fr', cells := 0, slots := 0, locals := lo' } 0 0 n :=
    callB_of n hts (xf_good m1) rfl rfl rfl (hts _ m2) (hts _ hl) ⟨m3, m4, m5⟩ (by rw [hR0.1, hR0.2]; exact hR)
  have hrc := va_recv hK hP hc he
  rw [hcy] at hrc
  refine xf_back (rest := rest) (va_runV (nL := nL0) (Ts := xf_GW) (C := y.cls) (b := b) (As := As) ⟨hx, hb, hml, hown, hts⟩ (hM H.size) ⟨cw, hts _ m6, hts _ m7⟩ ⟨xf_blind, hrc, fun U hU hW => ⟨rfl, by rw [hU], by rw [hU]; exact hP, va_K.moved hW.alike hK, hD.weaken (fun _ _ _ _ => trivial), xf_NW_warm hW hN⟩⟩ rfl hn hls.1.1 rfl (lv_room hw) hd ⟨hc1, hc2⟩) hD hS hA (fun v u hq H1 locs1 hP1 hD1 hS1 => kk v u hq H1 locs1 ls hP1 hD1 hS1 hls)
theorem xf_callVN (hX : xf_ok X l own cc nL fr lo wf D tys) (np : Nat) (hp : pc + 3 = np) {b : Nat} (As : List Value) (rest : List Value) (hM : xf_M l y cc' nL' ret' fr' lo' wf D tys (.ref b :: As) σ rq) (hy : xf_vir y cc' nL' ret' n) {host : String} (hl : Cond.methodLinkNest own idx y host ∈ xf_NL) (q0 ci : Nat) {fs : List Value} {r : vw_C} (he : (wf σ)[q0]? = some (b, .inr (ci, fs))) (hc : vwCl[ci]? = some r) (hcy : r.1 = y.cls) (hn : As.length = n) (hst : st = As.reverse ++ .ref b :: rest) (hw : (rest.map fun v => v.category).sum ≤ 8) (hR : fr' + 1 ≤ fr ∧ 8 + (nL' + 11) + lo' ≤ lo) (hd : decode cc pc = .ok (.invokevirtual idx, 3))
    (kk : ∀ (v : Option Value) (u : xf_S), rq v u → xf_V X np L (v.toList ++ rest) u) : xf_V X pc L st σ := by
  subst hp
  obtain ⟨p, l, e, R, s, m, args, below, meth, c, A, Q, D', tys', wf', nL0, cells, slots⟩ := X
  obtain ⟨⟨h1, h2, h3, h4, h5⟩, hx, hb, hml, hown, hts, hK, hN, hA, hR0, hc1, hc2⟩ := hX
  subst h1 h2 h3 h4 h5 hst
  obtain ⟨⟨m1, m2, m3, m4, m5⟩, m6, m7⟩ := hy
  intro H locs ls hP hD hS hls
  have cw : va_CN R s args own idx y host cc' nL' ret' (.code y cc' nL' ret' :: xf_GW) { frames := fr', cells := 0, slots := 0, locals := lo' } 0 0 n :=
    va_cnB n hts (xf_good m1) rfl rfl rfl (hN _ hl) (hts _ m2) ⟨m3, m4, m5⟩ (by rw [hR0.1, hR0.2]; exact hR)
  have hrc := va_recv hK hP hc he
  rw [hcy] at hrc
  refine xf_back (rest := rest) (va_runVN (nL := nL0) (Ts := xf_GW) (C := y.cls) (b := b) (As := As) ⟨hx, hb, hml, hown, hts⟩ (hM H.size) ⟨cw, hts _ m6, hts _ m7⟩ ⟨xf_blind, hrc, fun U hU hW => ⟨rfl, by rw [hU], by rw [hU]; exact hP, va_K.moved hW.alike hK, hD.weaken (fun _ _ _ _ => trivial), xf_NW_warm hW hN⟩⟩ rfl hn hls.1.1 rfl (lv_room hw) hd ⟨hc1, hc2⟩) hD hS hA (fun v u hq H1 locs1 hP1 hD1 hS1 => kk v u hq H1 locs1 ls hP1 hD1 hS1 hls)
end XFR
