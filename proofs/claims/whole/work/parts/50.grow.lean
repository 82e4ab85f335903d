/-! Worlds that grow: constructors. -/
def xf_re (X : xf_C) (ws : va_W) (nc ns : Nat) : xf_C := match X with
  | (p, l, e, R, s, m, args, below, meth, c, A, Q, D, tys, _, nL, _, _) => (p, l, e, R, s, m, args, below, meth, c, A, Q, D, tys, fun _ => ws, nL, nc, ns)
def xg_ok (X : xf_C) (l0 : Launch) (own : String) (cc : ByteArray) (nL0 fr lo mc ms : Nat) (D0 : va_G) (tys0 : List (ClassId × FieldType)) : Prop := match X with
  | (p, l, e, R, s, m, args, below, meth, c, A, Q, D, tys, wf, nL, cells, slots) => (l = l0 ∧ nL = nL0 ∧ D = D0 ∧ tys = tys0) ∧ p.tables.exec = Jvm.exec ∧ c.code = cc ∧ c.maxLocals = nL ∧ s.vm.findClass own = some m.cls ∧ (∀ w ∈ xf_GW, w.before args s = true) ∧ va_K D vwCl tys s ∧ xf_NW s ∧ (∀ q : Nat, s.heap.size ≤ q → A q) ∧ (R.frames = fr ∧ R.locals = lo) ∧ (R.cells = mc ∧ R.slots = ms) ∧ va_AO xnR_RD s
def xg_nm (X : xf_C) : Prop := match X with
  | (_, _, _, _, _, _, _, _, meth, _, _, _, _, _, _, _, _, _) => meth.name = "<init>"
def xg_Qc (D : va_G) (tys : List (ClassId × FieldType)) (A : Nat → Prop) (post : va_W → Prop) : Array Value → State → Outcome → State → Prop := fun _ st oc t => (∃ w1 : va_W, oc = .returned none ∧ post w1 ∧ va_P D vwCl w1 t.heap ∧ va_K D vwCl tys t ∧ va_D A w1) ∧ va_F A st t
def xg_end (X : xf_C) (mc ms : Nat) (post : va_W → Prop) : Prop := match X with
  | (p, l, e, R, s, m, args, below, meth, c, A, Q, D, tys, wf, nL, cells, slots) => meth.sig.returnType = none ∧ meth.locks = false ∧ Q = MQ below (xg_Qc D tys A post) args s mc ms A
def xg_M (l : Launch) (y : MethodName) (cc : ByteArray) (nL fr lo mc ms : Nat) (D : va_G) (tys : List (ClassId × FieldType)) (av : List Value) (ws : va_W) (post : va_W → Prop) : Prop :=
  ∀ sz : Nat, Met l y (.code y cc nL none :: xf_GW) { frames := fr, cells := mc, slots := ms, locals := lo } (va_Pc av (fun U => U.heap.size = sz ∧ va_P D vwCl ws U.heap ∧ va_K D vwCl tys U ∧ va_D (fun _ => True) ws ∧ xf_NW U ∧ va_AO xnR_RD U)) (xg_Qc D tys (va_A ws sz) post) mc ms (va_A ws sz)
def xg_0 : xf_S := ((fun _ => 0, fun _ _ => 0), (fun _ => 0, fun _ _ => 0))
section XG
variable {X : xf_C} {l : Launch} {own : String} {cc : ByteArray} {nL fr lo mc ms : Nat} {ws : va_W} {D : va_G} {tys : List (ClassId × FieldType)} {pc nc ns : Nat} {L : List (Option Value)} {st : List Value}
theorem xg_ok.on (h : xg_ok X l own cc nL fr lo mc ms D tys) (hc : Nat.ble nc mc = true) (hs : Nat.ble ns ms = true) : xf_ok (xf_re X ws nc ns) l own cc nL fr lo (fun _ => ws) D tys := by
  obtain ⟨p, l, e, R, s, m, args, below, meth, c, A, Q, D', tys', wf', nL', cells, slots⟩ := X
  obtain ⟨⟨h1, h2, h4, h5⟩, hx, hb, hml, hown, hts, hK, hN, hA, hR, hC, -⟩ := h
  exact ⟨⟨h1, h2, rfl, h4, h5⟩, hx, hb, hml, hown, hts, hK, hN, hA, hR, by rw [hC.1]; exact Nat.le_of_ble_eq_true hc, by rw [hC.2]; exact Nat.le_of_ble_eq_true hs⟩
theorem xg_start {y : MethodName} {av : List Value} {post : va_W → Prop} (L : List (Option Value)) (ho : y.cls = own) (hi : y.name = "<init>") (hy : plainName y.cls = true) (hn : (lg_sl av).length ≤ nL) (hL : xf_pr 0 L = lv_args 0 av) (hc : ∀ (j : Nat) (v : Value), L[j]? = some (some v) → v.category = 1)
    (body : ∀ X : xf_C, xg_ok X l own cc nL fr lo mc ms D tys → xg_nm X → xg_end X mc ms post → xf_V (xf_re X ws 0 0) 0 L [] xg_0) : xg_M l y cc nL fr lo mc ms D tys av ws post := by
  subst ho
  intro sz
  refine Met.ofW (cc := cc) (maxL := nL) (ret := none) hy rfl ?_
  intro p e s m args below meth c s₁ B hml hv
  obtain ⟨rfl, hsz, hP, hK, hD0, hN, hAO⟩ := hv
  subst hsz
  have hD := hD0.self (sz := s.heap.size)
  have hts := atoms_spec (ws := .code y cc nL none :: xf_GW) B.pre
  have hl := lv_entry av (n := nL) hn
  rw [lg_entry_eq]
  have hnm : meth.name = "<init>" := (name_of_methodNamed B.named B.method).1.trans hi
  have V := body (p, l, e, (headSpec (.code y cc nL none :: xf_GW) ({ frames := fr, cells := mc, slots := ms, locals := lo } : Room)).room, s, m, av.toArray, below, meth, c, va_A ws s.heap.size, _, D, tys, fun _ => ws, nL, 0, 0) ⟨⟨rfl, rfl, rfl, rfl⟩, B.exec, B.bytes, hml, findClass_of_methodNamed B.named, fun w hw => hts w (List.mem_cons_of_mem _ hw), hK, hN, fun q h => Or.inr h, ⟨rfl, rfl⟩, ⟨rfl, rfl⟩, hAO⟩ hnm ⟨B.returns, B.notSynchronized, rfl⟩
  exact V s.heap [] _ hP hD va_S.rf ⟨by rw [hL]; exact hl, hc⟩
theorem xg_ret {post : va_W → Prop} (hX : xg_ok X l own cc nL fr lo mc ms D tys) (hE : xg_end X mc ms post) (hc : Nat.ble nc mc = true) (hs : Nat.ble ns ms = true) (hd : decode cc pc = .ok (.return_, 1)) (h : post ws) : xf_V (xf_re X ws nc ns) pc L [] xg_0 := by
  obtain ⟨p, l, e, R, s, m, args, below, meth, c, A, Q, D', tys', wf', nL', cells, slots⟩ := X
  obtain ⟨⟨h1, h2, h4, h5⟩, hx, hb, hml, hown, hts, hK, hN, hA, hR, hC, -⟩ := hX
  obtain ⟨hr, hlk, hQ⟩ := hE
  subst h2 h4 h5 hQ
  exact fun H locs ls hP hD hS hl => W.widen (Nat.le_of_ble_eq_true hc) (Nat.le_of_ble_eq_true hs) (W.vret hx hb hr (fun t ht hW => ⟨⟨ws, rfl, h, by rw [ht]; exact hP, va_K.moved hW.alike hK, hD⟩, hS.F ht⟩) hS.2.2 hd hlk)
theorem xg_objInit (hX : xg_ok X l own cc nL fr lo mc ms D tys) (np : Nat) (hp : pc + 3 = np) {idx a : Nat} (hl : Cond.methodLink own idx Lib.objectInit ∈ xf_GW) (hi : Cond.instanceMethod Lib.objectInit ∈ xf_GW) (hcd : Cond.code Lib.objectInit ⟨#[0xb1]⟩ 1 none ∈ xf_GW) (hf : Nat.ble 1 fr = true) (hw : Nat.ble ((st.map fun v => v.category).sum + 12) lo = true) (hd : decode cc pc = .ok (.invokespecial idx, 3)) (kk : xf_V (xf_re X ws nc ns) np L st xg_0) : xf_V (xf_re X ws nc ns) pc L (.ref a :: st) xg_0 := by
  subst hp
  obtain ⟨p, l, e, R, s, m, args, below, meth, c, A, Q, D', tys', wf', nL', cells, slots⟩ := X
  obtain ⟨⟨h1, h2, h4, h5⟩, hx, hb, hml, hown, hts, hK, hN, hA, hR, hC, -⟩ := hX
  exact fun H locs ls hP hD hS hls => W.objInit hx hb hown (hts _ hl) (hts _ hi) (hts _ hcd) rfl (by rw [hml]; exact hls.1.1) rfl hd (by rw [hR.1]; exact Nat.le_of_ble_eq_true hf) (by rw [hR.2]; show 2 * 0 + _ + 12 ≤ lo; rw [Nat.mul_zero, Nat.zero_add]; exact Nat.le_of_ble_eq_true hw) (kk H locs ls hP hD hS hls)
theorem xg_new (hX : xg_ok X l own cc nL fr lo mc ms D tys) (np : Nat) (hp : pc + 3 = np) {C : String} {T : u_T} {N ci idx : Nat} (hin : ∀ w ∈ u_ws C T N, w ∈ xf_GW) (ty : Nat → FieldType) (hty : ∀ k, k < N → parseFieldDescriptor (T k).2.2.1 = some (ty k)) (hcl : Cond.classLink own idx C ∈ xf_GW) (hinst : Cond.instantiable C N ∈ xf_GW) (hini : Cond.initialized C ∈ xf_GW) (hc : vwCl[ci]? = some (C, T, N)) {fs : List Value} (hfs : ∀ j, j < N → defaultValue (ty j) = vp_V fs j) (hcc : Nat.ble (nc + 1) mc = true) (hss : Nat.ble (ns + N) ms = true) (hd : decode cc pc = .ok (.new idx, 3))
    (kk : ∀ q : Nat, xf_V (xf_re X (ws ++ [(q, .inr (ci, fs))]) (nc + 1) (ns + N)) np L (.ref q :: st) xg_0) : xf_V (xf_re X ws nc ns) pc L st xg_0 := by
  subst hp
  obtain ⟨p, l, e, R, s, m, args, below, meth, c, A, Q, D', tys', wf', nL', cells, slots⟩ := X
  obtain ⟨⟨h1, h2, h4, h5⟩, hx, hb, hml, hown, hts, hK, hN, hA, hR, hC, -⟩ := hX
  exact fun H locs ls hP hD hS hls => va_new hx hb hts hin ty hty hown (hts _ hcl) (hts _ hinst) (hts _ hini) hK hP hD hS hA hc hfs (by rw [hC.1]; exact Nat.le_of_ble_eq_true hcc) (by rw [hC.2]; exact Nat.le_of_ble_eq_true hss) hd (fun q H1 hP1 hD1 hS1 => kk q H1 locs ls hP1 hD1 hS1 hls)
theorem xg_newa (hX : xg_ok X l own cc nL fr lo mc ms D tys) (np : Nat) (hp : pc + 2 = np) {atype : ArrayType} {ty : FieldType} (hty : newarray.typeOf atype = ty) (harr : Cond.arrayClass ty ∈ xf_GW) (t0 : Nat) {cA : ClassId} (ht : tys[t0]? = some (cA, ty)) (hra : ∀ (U : State) (x : ClassId), va_RA U x ty → U.vm.findClass ("[" ++ ty.toString) = some x) {n : Int32} (N : Nat) (ha : ∀ cA : ClassId, vp_cell cA (N, .inl (fun _ => 0)) = arrV cA N (fun _ => defaultValue ty)) (hn : n = nI N) (B : Nat) (hB : N ≤ B) (hB2 : B ≤ 32) (hcb : componentBytes ty ≤ 4) (hcc : Nat.ble (nc + 1) mc = true) (hss : Nat.ble (ns + B) ms = true) (hd : decode cc pc = .ok (.newarray atype, 2))
    (kk : ∀ q : Nat, xf_V (xf_re X (ws ++ [(q, .inl (cA, N, .inl (fun _ => 0)))]) (nc + 1) (ns + B)) np L (.ref q :: st) xg_0) : xf_V (xf_re X ws nc ns) pc L (.int n :: st) xg_0 := by
  subst hp hn
  obtain ⟨p, l, e, R, s, m, args, below, meth, c, A, Q, D', tys', wf', nL', cells, slots⟩ := X
  obtain ⟨⟨h1, h2, h4, h5⟩, hx, hb, hml, hown, hts, hK, hN, hA, hR, hC, -⟩ := hX
  subst h5
  have hs := Nat.le_of_ble_eq_true hss
  have hby : N * componentBytes ty ≤ 536870912 := Nat.le_trans (Nat.mul_le_mul (Nat.le_trans hB hB2) hcb) (by decide)
  refine fun H locs ls hP hD hS hls => va_newa hx hb (by rw [hty]; exact hts _ harr) hty hK hP hD hS hA ha (nI_pos (by omega)) (nI_clamp (by omega)) hby (by rw [hC.1]; exact Nat.le_of_ble_eq_true hcc) (by rw [hC.2]; omega) hd (fun q cB H1 hK1 hP1 hD1 hS1 => ?_)
  have e1 := hra s cB (hK1.2 tys'.length (cB, ty) (by simp)).2
  have e2 := hra s cA (hK.2 t0 _ ht).2
  have e3 : cB = cA := Option.some.inj (e1.symm.trans e2)
  subst e3
  exact W.widen (Nat.le_refl _) (by omega) (kk q H1 locs ls hP1 hD1 hS1 hls)
theorem xg_newq (hX : xg_ok X l own cc nL fr lo mc ms D tys) (np : Nat) (hp : pc + 3 = np) {idx : Nat} (hcl : Cond.classLink own idx xnR_RD ∈ xf_GW) (t0 : Nat) {cA : ClassId} (ht : tys[t0]? = some (cA, .object xnR_RD)) {n : Int32} (N : Nat) (hn : n = nI N) (hB2 : N ≤ 32) (hcc : Nat.ble (nc + 1) mc = true) (hss : Nat.ble (ns + N) ms = true) (hd : decode cc pc = .ok (.anewarray idx, 3))
    (kk : ∀ q : Nat, xf_V (xf_re X (ws ++ [(q, .inl (cA, N, .inr (.inr (.inr (.inr (fun _ => none))))))]) (nc + 1) (ns + N)) np L (.ref q :: st) xg_0) : xf_V (xf_re X ws nc ns) pc L (.int n :: st) xg_0 := by
  subst hp hn
  obtain ⟨p, l, e, R, s, m, args, below, meth, c, A, Q, D', tys', wf', nL', cells, slots⟩ := X
  obtain ⟨⟨h1, h2, h4, h5⟩, hx, hb, hml, hown, hts, hK, hN, hA, hR, hC, hAO⟩ := hX
  subst h5
  refine fun H locs ls hP hD hS hls => va_newq hx hb hown (hts _ hcl) hAO hK hP hD hS hA (nI_pos (by omega)) (nI_clamp (by omega)) (by omega) (by rw [hC.1]; exact Nat.le_of_ble_eq_true hcc) (by rw [hC.2]; exact Nat.le_of_ble_eq_true hss) hd (fun q cB H1 hK1 hP1 hD1 hS1 => ?_)
  obtain ⟨-, -, -, -, -, e1⟩ := (hK1.2 tys'.length (cB, .object xnR_RD) (by simp)).2
  obtain ⟨-, -, -, -, -, e2⟩ := (hK.2 t0 _ ht).2
  have e3 : cB = cA := Option.some.inj (e1.symm.trans e2)
  subst e3
  exact kk q H1 locs ls hP1 hD1 hS1 hls
theorem xg_putF (hX : xg_ok X l own cc nL fr lo mc ms D tys) (hI : xg_nm X) (np : Nat) (hp : pc + 3 = np) {C : String} {T : u_T} {N ci idx a : Nat} (hin : ∀ w ∈ u_ws C T N, w ∈ xf_GW) (ty0 : Nat → FieldType) (hty : ∀ k, k < N → parseFieldDescriptor (T k).2.2.1 = some (ty0 k)) (hnm : ∀ a, a < N → ∀ b, b < N → a ≠ b → (T a).2.1 ≠ (T b).2.1) (q0 : Nat) {fs : List Value} (he : ws[q0]? = some (a, .inr (ci, fs))) (hc : vwCl[ci]? = some (C, T, N)) (k : Nat) (hk : k < N) (hlink : Cond.fieldLink own idx (T k).1 (T k).2.1 (T k).2.2.1 ∈ xf_GW) (hfin : (T k).2.2.2 = true) (hdecl : (T k).1 = own) {v : Value} {ty : FieldType} (hdsc : parseFieldDescriptor (T k).2.2.1 = some ty) (hn : narrow ty v = v) (hfit : fits ty v = true) (hl9 : k < fs.length) (hd : decode cc pc = .ok (.putfield idx, 3))
    (kk : xf_V (xf_re X (ws.set q0 (a, .inr (ci, fs.set k v))) nc ns) np L st xg_0) : xf_V (xf_re X ws nc ns) pc L (v :: .ref a :: st) xg_0 := by
  subst hp
  obtain ⟨p, l, e, R, s, m, args, below, meth, c, A, Q, D', tys', wf', nL', cells, slots⟩ := X
  obtain ⟨⟨h1, h2, h4, h5⟩, hx, hb, hml, hown, hts, hK, hN, hA, hR, hC, -⟩ := hX
  exact fun H locs ls hP hD hS hl => va_putF hx hb hts hin ty0 hty hnm hown hK hP hD hS q0 he hc k hk (hts _ hlink) (fun _ h9 => h9) hfin hI hdecl hdsc hn hfit hl9 hd (fun H1 locs1 hP1 hD1 hS1 => kk H1 locs1 ls hP1 hD1 hS1 hl)
theorem xg_put (hX : xg_ok X l own cc nL fr lo mc ms D tys) (np : Nat) (hp : pc + 3 = np) {C : String} {T : u_T} {N ci idx a : Nat} (hin : ∀ w ∈ u_ws C T N, w ∈ xf_GW) (ty0 : Nat → FieldType) (hty : ∀ k, k < N → parseFieldDescriptor (T k).2.2.1 = some (ty0 k)) (hnm : ∀ a, a < N → ∀ b, b < N → a ≠ b → (T a).2.1 ≠ (T b).2.1) (q0 : Nat) {fs : List Value} (he : ws[q0]? = some (a, .inr (ci, fs))) (hc : vwCl[ci]? = some (C, T, N)) (k : Nat) (hk : k < N) (hlink : Cond.fieldLink own idx (T k).1 (T k).2.1 (T k).2.2.1 ∈ xf_GW) (hfin : (T k).2.2.2 = false) {v : Value} {ty : FieldType} (hdsc : parseFieldDescriptor (T k).2.2.1 = some ty) (hn : narrow ty v = v) (hfit : fits ty v = true) (hl9 : k < fs.length) (hd : decode cc pc = .ok (.putfield idx, 3))
    (kk : xf_V (xf_re X (ws.set q0 (a, .inr (ci, fs.set k v))) nc ns) np L st xg_0) : xf_V (xf_re X ws nc ns) pc L (v :: .ref a :: st) xg_0 := by
  subst hp
  obtain ⟨p, l, e, R, s, m, args, below, meth, c, A, Q, D', tys', wf', nL', cells, slots⟩ := X
  obtain ⟨⟨h1, h2, h4, h5⟩, hx, hb, hml, hown, hts, hK, hN, hA, hR, hC, -⟩ := hX
  exact fun H locs ls hP hD hS hl => va_put hx hb hts hin ty0 hty hnm hown hK hP hD hS q0 he hc k hk (hts _ hlink) (fun _ h9 => h9) hfin hdsc hn hfit hl9 hd (fun H1 locs1 hP1 hD1 hS1 => kk H1 locs1 ls hP1 hD1 hS1 hl)
theorem xg_astq (hX : xg_ok X l own cc nL fr lo mc ms D tys) (np : Nat) (hp : pc + 1 = np) (q0 t0 qk ci : Nat) {a : Nat} {cA : ClassId} {r : vw_C} {n v : Nat} {vs : List Value} {f : Nat → Option Nat} (ha : ws[q0]? = some (a, .inl (cA, n, .inr (.inr (.inr (.inr f)))))) (ht : tys[t0]? = some (cA, .object r.1)) (hv : ws[qk]? = some (v, .inr (ci, vs))) (hc : vwCl[ci]? = some r) {i : Int32} (hin : vp_in i n) (hd : decode cc pc = .ok (.aastore, 1))
    (kk : xf_V (xf_re X (ws.set q0 (a, .inl (cA, n, .inr (.inr (.inr (.inr (va_up f i.toNatClampNeg (some v)))))))) nc ns) np L st xg_0) : xf_V (xf_re X ws nc ns) pc L (.ref v :: .int i :: .ref a :: st) xg_0 := by
  subst hp
  obtain ⟨p, l, e, R, s, m, args, below, meth, c, A, Q, D', tys', wf', nL', cells, slots⟩ := X
  obtain ⟨⟨h1, h2, h4, h5⟩, hx, hb, hml, hown, hts, hK, hN, hA, hR, hC, -⟩ := hX
  subst h5
  exact fun H locs ls hP hD hS hl => va_astq hx hb hK hP hD hS q0 t0 qk ci ha ht hv hc hin hd (fun H1 locs1 hP1 hD1 hS1 => kk H1 locs1 ls hP1 hD1 hS1 hl)
theorem xg_blind {av : List Value} {sz : Nat} : FrameBlind (va_Pc av (fun U => U.heap.size = sz ∧ va_P D vwCl ws U.heap ∧ va_K D vwCl tys U ∧ va_D (fun _ => True) ws ∧ xf_NW U ∧ va_AO xnR_RD U)) := by
  intro a U g mk q
  obtain ⟨q0, q1, qP, qK, qD, qN, qA⟩ := q
  exact ⟨q0, q1, qP, va_K.moved (u := U) (U := U.calling g mk a) (Vm.Alike.refl U.vm) qK, qD, xf_NW_vm (s := U) (U := U.calling g mk a) rfl qN, va_AO.moved (u := U) (U := U.calling g mk a) (Vm.Alike.refl U.vm) qA⟩
theorem xg_back {p : Program} {l : Launch} {e : Env} {R : Room} {s : State} {m : MethodId} {args : Array Value} {below : List Frame} {meth : Method} {c : Code} {H : Heap} {locs : List Loc} {cells slots mc' ms' : Nat} {Q : State → Prop} {A : Nat → Prop} {ls : Array Slot} {st0 rest : List Value} {aa : Array Value} {post : va_W → Prop}
    (hr : va_Run p l e R s m args below meth c H locs cells slots mc' ms' (F0 m pc ls st0) rest (xg_Qc D tys (va_A ws H.size) post aa) (va_A ws H.size)) (hD : va_D A ws) (hS : va_S A s.heap H locs) (hA : ∀ q : Nat, s.heap.size ≤ q → A q)
    (kk : ∀ w1 : va_W, post w1 → ∀ (H1 : Heap) (locs1 : List Loc), va_P D vwCl w1 H1 → va_D A w1 → va_S A s.heap H1 locs1 → W p l e R s m args below meth c H1 locs1 (cells + mc') (slots + ms') Q (F0 m (pc + 3) ls rest)) : W p l e R s m args below meth c H locs cells slots Q (F0 m pc ls st0) := by
  have hF : ∀ q, va_A ws H.size q → A q := by
    intro q h
    rcases h with ⟨k, e, h⟩ | h
    · exact hD.2 k (q, e) h
    · exact hA q (Nat.le_trans hS.1 h)
  intro T hT X
  obtain ⟨v, st₀, t, T', L, h0, X', hL, e1, e2, ⟨⟨w1, hv, hp, hP1, hK1, hD1⟩, hz, hk⟩, st⟩ := hr T hT X
  cases hv
  rw [h0] at hz hk
  obtain ⟨t2, a1, b1⟩ := kk w1 hp T'.heap (locs ++ L) (by rw [e1]; exact hP1) (hD1.weaken (fun _ q _ h => hF q.1 h))
    ⟨Nat.le_trans hS.1 (by rw [e1]; exact hz), fun q h1 h2 => by rw [e1, hk q (Nat.lt_of_lt_of_le h1 hS.1) (fun z => h2 (hF q z))]; exact hS.2.1 q h1 h2, fun q hq => by
      rcases List.mem_append.mp hq with h | h
      · exact hS.2.2 q h
      · exact hF _ (hL q h)⟩ T' rfl X'
  exact ⟨t2, st t2 a1, b1⟩
/-- what the tables say of a constructor -/
def xg_ini (y : MethodName) (cc : ByteArray) (nL n : Nat) : Prop := xf_mth y cc nL none n ∧ Cond.instanceMethod y ∈ xf_GW ∧ y.name = "<init>"
variable {y : MethodName} {cc' : ByteArray} {nL' fr' lo' mc' ms' idx n b : Nat} {post : va_W → Prop}
theorem xg_callI (hX : xg_ok X l own cc nL fr lo mc ms D tys) (np : Nat) (hp : pc + 3 = np) (As rest : List Value) (hM : xg_M l y cc' nL' fr' lo' mc' ms' D tys (.ref b :: As) ws post) (hy : xg_ini y cc' nL' n) (hl : Cond.methodLink own idx y ∈ xf_GW) (hn : As.length = n) (hst : st = As.reverse ++ .ref b :: rest) (hw : Nat.ble ((rest.map fun v => v.category).sum) 8 = true) (hR : (Nat.ble (fr' + 1) fr && Nat.ble (8 + (nL' + 11) + lo') lo) = true) (hcc : Nat.ble (nc + mc') mc = true) (hss : Nat.ble (ns + ms') ms = true) (hd : decode cc pc = .ok (.invokespecial idx, 3))
    (kk : ∀ w1 : va_W, post w1 → xf_V (xf_re X w1 (nc + mc') (ns + ms')) np L rest xg_0) : xf_V (xf_re X ws nc ns) pc L st xg_0 := by
  subst hp
  obtain ⟨p, l, e, R, s, m, args, below, meth, c, A, Q, D', tys', wf', nL0, cells, slots⟩ := X
  obtain ⟨⟨h1, h2, h4, h5⟩, hx, hb, hml, hown, hts, hK, hN, hA, hR0, hC, hAO⟩ := hX
  subst h1 h2 h4 h5 hst
  obtain ⟨⟨m1, m2, m3, m4, m5⟩, m6, m7⟩ := hy
  intro H locs ls hP hD hS hls
  have cw := cwI (R := R) (own := own) (index := idx) (y := y) (bytes := cc') (maxL := nL') (ws := .code y cc' nL' none :: xf_GW) (rm := { frames := fr', cells := mc', slots := ms', locals := lo' }) (mc := mc') (ms := ms') n hts (xf_good m1) rfl rfl rfl (hts _ m2) (hts _ hl) (hts _ m6) m7 ⟨m3, m4, m5⟩ (by rw [hR0.1, hR0.2]; exact xf_ble hR)
  exact xg_back (rest := rest) (va_runI (nL := nL0) (Ts := xf_GW) (As := As) ⟨hx, hb, hml, hown, hts⟩ (hM H.size) cw ⟨xg_blind, fun U hU hW => ⟨rfl, by rw [hU], by rw [hU]; exact hP, va_K.moved hW.alike hK, hD.weaken (fun _ _ _ _ => trivial), xf_NW_warm hW hN, va_AO.moved hW.alike hAO⟩⟩ rfl hn hls.1.1 rfl (lv_room (Nat.le_of_ble_eq_true hw)) hd ⟨by rw [hC.1]; exact Nat.le_of_ble_eq_true hcc, by rw [hC.2]; exact Nat.le_of_ble_eq_true hss⟩) hD hS hA (fun w1 hq H1 locs1 hP1 hD1 hS1 => kk w1 hq H1 locs1 ls hP1 hD1 hS1 hls)
theorem xg_callIN (hX : xg_ok X l own cc nL fr lo mc ms D tys) (np : Nat) (hp : pc + 3 = np) (As rest : List Value) (hM : xg_M l y cc' nL' fr' lo' mc' ms' D tys (.ref b :: As) ws post) (hy : xg_ini y cc' nL' n) {host : String} (hl : Cond.methodLinkNest own idx y host ∈ xf_NL) (hn : As.length = n) (hst : st = As.reverse ++ .ref b :: rest) (hw : Nat.ble ((rest.map fun v => v.category).sum) 8 = true) (hR : (Nat.ble (fr' + 1) fr && Nat.ble (8 + (nL' + 11) + lo') lo) = true) (hcc : Nat.ble (nc + mc') mc = true) (hss : Nat.ble (ns + ms') ms = true) (hd : decode cc pc = .ok (.invokespecial idx, 3))
    (kk : ∀ w1 : va_W, post w1 → xf_V (xf_re X w1 (nc + mc') (ns + ms')) np L rest xg_0) : xf_V (xf_re X ws nc ns) pc L st xg_0 := by
  subst hp
  obtain ⟨p, l, e, R, s, m, args, below, meth, c, A, Q, D', tys', wf', nL0, cells, slots⟩ := X
  obtain ⟨⟨h1, h2, h4, h5⟩, hx, hb, hml, hown, hts, hK, hN, hA, hR0, hC, hAO⟩ := hX
  subst h1 h2 h4 h5 hst
  obtain ⟨⟨m1, m2, m3, m4, m5⟩, m6, m7⟩ := hy
  intro H locs ls hP hD hS hls
  have cw : va_CN R s args own idx y host cc' nL' none (.code y cc' nL' none :: xf_GW) { frames := fr', cells := mc', slots := ms', locals := lo' } mc' ms' n :=
    va_cnB n hts (xf_good m1) rfl rfl rfl (hN _ hl) (hts _ m2) ⟨m3, m4, m5⟩ (by rw [hR0.1, hR0.2]; exact xf_ble hR)
  exact xg_back (rest := rest) (va_runIN (nL := nL0) (Ts := xf_GW) (As := As) ⟨hx, hb, hml, hown, hts⟩ (hM H.size) ⟨cw, m7, hts _ m6⟩ ⟨xg_blind, fun U hU hW => ⟨rfl, by rw [hU], by rw [hU]; exact hP, va_K.moved hW.alike hK, hD.weaken (fun _ _ _ _ => trivial), xf_NW_warm hW hN, va_AO.moved hW.alike hAO⟩⟩ rfl hn hls.1.1 rfl (lv_room (Nat.le_of_ble_eq_true hw)) hd ⟨by rw [hC.1]; exact Nat.le_of_ble_eq_true hcc, by rw [hC.2]; exact Nat.le_of_ble_eq_true hss⟩) hD hS hA (fun w1 hq H1 locs1 hP1 hD1 hS1 => kk w1 hq H1 locs1 ls hP1 hD1 hS1 hls)
/-- the world, by another list of the same cells -/
theorem xg_perm (is : List Nat) {ws' : va_W} (h : is.filterMap (fun i => ws[i]?) = ws') (h2 : is.map (fun i => ws[i]?) = ws'.map some) (hn : va_nd is = true) (kk : xf_V (xf_re X ws' nc ns) pc L st xg_0) : xf_V (xf_re X ws nc ns) pc L st xg_0 := by
  obtain ⟨p, l, e, R, s, m, args, below, meth, c, A, Q, D', tys', wf', nL', cells, slots⟩ := X
  exact fun H locs ls hP hD hS hls => kk H locs ls (hP.sub (ws' := ws') is h) (hD.sub (ws' := ws') is hn h2) hS hls
end XG
