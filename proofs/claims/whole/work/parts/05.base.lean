/-! THE BASE, machine side -/
theorem nar_b {v : Int32} (h : v = 0 ∨ v = 1) : narrow .boolean (.int v) = .int v := by
  rcases h with rfl | rfl <;> decide +kernel
/-- a part of a world, and what a change of the part makes of the whole -/
def Ln (ws wc ws' wc' : va_W) : Prop := ∃ is : List Nat, is.map (fun i => ws[i]?) = wc.map some ∧ va_nd is = true ∧ wc'.map (·.1) = wc.map (·.1) ∧ ws'.map (·.1) = ws.map (·.1) ∧ ∀ (k : Nat) (q : Nat × va_E), ws'[k]? = some q → (k ∉ is ∧ ws[k]? = some q) ∨ ∃ j : Nat, wc'[j]? = some q
def mrg (ws : va_W) : List Nat → va_W → va_W
  | i :: is, q :: qs => (mrg ws is qs).set i q
  | _, _ => ws
theorem mrg_at (ws : va_W) : ∀ (is : List Nat) (wc' : va_W), is.length = wc'.length → ∀ (k : Nat) (q : Nat × va_E), (mrg ws is wc')[k]? = some q → (k ∉ is ∧ ws[k]? = some q) ∨ ∃ j : Nat, wc'[j]? = some q
  | [], wc', _, k, q, h => by
    left
    refine ⟨List.not_mem_nil, ?_⟩
    cases wc' <;> exact h
  | i :: is, [], hl, k, q, h => by simp at hl
  | i :: is, p :: wc', hl, k, q, h => by
    have hl' : is.length = wc'.length := by simpa using hl
    simp only [mrg] at h
    by_cases hk : i = k
    · subst hk
      have hlt : i < ((mrg ws is wc').set i p).length := (List.getElem?_eq_some_iff.mp h).1
      rw [List.getElem?_set_self (by simpa using hlt)] at h
      exact Or.inr ⟨0, by simpa using h⟩
    · rw [List.getElem?_set_ne hk] at h
      rcases mrg_at ws is wc' hl' k q h with ⟨h1, h2⟩ | ⟨j, h1⟩
      · exact Or.inl ⟨fun z => (List.mem_cons.mp z).elim (fun e => hk e.symm) h1, h2⟩
      · exact Or.inr ⟨j + 1, by simpa using h1⟩
theorem Ln.of {ws wc ws' wc' : va_W} (is : List Nat) (h1 : is.map (fun i => ws[i]?) = wc.map some) (h2 : va_nd is = true) (h3 : wc'.map (·.1) = wc.map (·.1)) (h4 : ws'.map (·.1) = ws.map (·.1)) (h5 : mrg ws is wc' = ws') : Ln ws wc ws' wc' := by
  refine ⟨is, h1, h2, h3, h4, fun k q hq => ?_⟩
  subst h5
  have e1 : is.length = wc.length := by simpa using congrArg List.length h1
  have e2 : wc'.length = wc.length := by simpa using congrArg List.length h3
  exact mrg_at ws is wc' (e1.trans e2.symm) k q hq
def mg (ws : va_W) (sel : List (Option Nat)) (wc' : va_W) : va_W := List.zipWith (fun q o => match o with
  | none => q
  | some j => wc'.getD j q) ws sel
def mgc (is : List Nat) (n : Nat) (sel : List (Option Nat)) : Bool := (List.range sel.length).all fun k => match sel[k]? with
  | some none => !(is.contains k)
  | some (some j) => decide (j < n)
  | none => true
theorem Ln.of2 {ws wc ws' wc' : va_W} (is : List Nat) (sel : List (Option Nat)) (n : Nat) (h1 : is.map (fun i => ws[i]?) = wc.map some) (h2 : va_nd is = true) (h3 : wc'.map (·.1) = wc.map (·.1)) (h4 : ws'.map (·.1) = ws.map (·.1)) (hn : wc'.length = n) (hsel : mgc is n sel = true) (h5 : mg ws sel wc' = ws') : Ln ws wc ws' wc' := by
  refine ⟨is, h1, h2, h3, h4, fun k q hq => ?_⟩
  subst h5
  subst hn
  unfold mg at hq
  rw [List.getElem?_zipWith] at hq
  cases hw : ws[k]? with
  | none => rw [hw] at hq; simp at hq
  | some a =>
    cases hs : sel[k]? with
    | none => rw [hw, hs] at hq; simp at hq
    | some o =>
      rw [hw, hs] at hq
      have hck := List.all_eq_true.mp hsel k (List.mem_range.mpr (List.getElem?_eq_some_iff.mp hs).1)
      cases o with
      | none =>
        left
        refine ⟨?_, by simpa using hq⟩
        simpa [hs] using hck
      | some j =>
        right
        have hj : j < wc'.length := by simpa [hs] using hck
        refine ⟨j, ?_⟩
        have e1 : wc'.getD j a = q := by simpa using hq
        rw [← e1, List.getD_eq_getElem?_getD, List.getElem?_eq_getElem hj]
        rfl
theorem Ln.nil {ws : va_W} : Ln ws [] ws [] := ⟨[], rfl, rfl, rfl, rfl, fun _ _ h => Or.inl ⟨List.not_mem_nil, h⟩⟩
theorem nd_range : ∀ (n a : Nat), va_nd (List.range' a n) = true
  | 0, _ => rfl
  | n + 1, a => by
    rw [List.range'_succ]
    simp only [va_nd, Bool.and_eq_true, decide_eq_true_eq]
    refine ⟨fun h => ?_, nd_range n (a + 1)⟩
    have := List.mem_range'_1.mp h
    omega
theorem Ln.id {ws ws' : va_W} (h : ws'.map (·.1) = ws.map (·.1)) : Ln ws ws ws' ws' := by
  refine ⟨List.range' 0 ws.length, ?_, nd_range _ _, h, h, fun k q hq => Or.inr ⟨k, hq⟩⟩
  apply List.ext_getElem?
  intro k
  rw [List.getElem?_map, List.getElem?_map]
  by_cases hk : k < ws.length
  · rw [List.getElem?_range' hk]
    simp [hk]
  · rw [List.getElem?_eq_none (by simpa using hk), List.getElem?_eq_none (by simpa using hk)]
    rfl
theorem va_D.same {A : Nat → Prop} {ws ws' : va_W} (h : va_D A ws) (e : ws'.map (·.1) = ws.map (·.1)) : va_D A ws' := by
  have key : ∀ (k : Nat) (q : Nat × va_E), ws'[k]? = some q → ∃ p, ws[k]? = some p ∧ p.1 = q.1 := by
    intro k q hq
    have h1 : (ws'.map (·.1))[k]? = some q.1 := by rw [List.getElem?_map, hq]; rfl
    rw [e, List.getElem?_map] at h1
    cases hp : ws[k]? with
    | none => rw [hp] at h1; cases h1
    | some p => rw [hp] at h1; exact ⟨p, rfl, Option.some.inj h1⟩
  refine ⟨fun i j x y hi hj hxy => ?_, fun k q hk => ?_⟩
  · obtain ⟨a, h1, h2⟩ := key i x hi
    obtain ⟨b, h3, h4⟩ := key j y hj
    exact h.1 i j a b h1 h3 (by rw [h2, h4]; exact hxy)
  · obtain ⟨a, h1, h2⟩ := key k q hk
    rw [← h2]
    exact h.2 k a h1
/-- THE CONTRACT: with the world wc and the arguments av the method returns rv and leaves the world wc' -/
def Ct (l : Launch) (y : MethodName) (ws : List Cond) (rm : Room) (D : va_G) (cI : ClassId) (wc wc' : va_W) (av : List Value) (rv : Option Value) : Prop :=
  ∀ sz : Nat, Met l y ws rm (va_Pc av (fun U => U.heap.size = sz ∧ va_P D vwCl wc U.heap ∧ va_K D vwCl [(cI, .int)] U ∧ va_D (fun _ => True) wc)) (fun _ st oc t => oc = .returned rv ∧ va_P D vwCl wc' t.heap ∧ va_F (va_A wc sz) st t) 0 0 (va_A wc sz)
section CtOf
variable {l : Launch} {y : MethodName} {ws ws' : List Cond} {rm : Room} {D : va_G} {cI : ClassId} {wc wc' : va_W} {av : List Value} {cc : ByteArray} {maxL : Nat}
def CtBody (l : Launch) (y : MethodName) (ws : List Cond) (rm : Room) (D : va_G) (cI : ClassId) (wc wc' : va_W) (av : List Value) (cc : ByteArray) (maxL : Nat) (iret : Instr) (rst : List Value) : Prop :=
  ∀ (p : Program) (e : Env) (s : State) (m : MethodId) (args : Array Value) (below : List Frame) (meth : Method) (c : Code) (A : Nat → Prop) (Q : State → Prop) (H : Heap) (locs : List Loc) (ls : Array Slot),
    p.tables.exec = Jvm.exec → c.code = cc → c.maxLocals = maxL → s.vm.findClass y.cls = some m.cls → (∀ w ∈ ws, w.before args s = true) → (∀ q : Nat, s.heap.size ≤ q → A q) → va_K D vwCl [(cI, .int)] s → va_P D vwCl wc H → va_D A wc → va_S A s.heap H locs → lv_has ls maxL (lv_args 0 av) →
    (∀ (H : Heap) (locs : List Loc) (pc : Nat) (ls : Array Slot), va_P D vwCl wc' H → va_S A s.heap H locs → decode cc pc = .ok (iret, 1) → W p l e rm s m args below meth c H locs 0 0 Q (F0 m pc ls rst)) →
    W p l e rm s m args below meth c H locs 0 0 Q (F0 m 0 ls [])
theorem Ct.of {rv : Option Value} {iret : Instr} {ret : Option FieldType} (hy : plainName y.cls = true) (hw : ws = Cond.code y cc maxL ret :: ws') (hav : (lg_sl av).length ≤ maxL)
    (hret : ∀ (p : Program) (e : Env) (s : State) (m : MethodId) (args : Array Value) (below : List Frame) (meth : Method) (c : Code) (Qc : Array Value → State → Outcome → State → Prop) (free : Addr → Prop) (H : Heap) (locs : List Loc) (pc : Nat) (ls : Array Slot), p.tables.exec = Jvm.exec → c.code = cc → meth.sig.returnType = ret → meth.locks = false → (∀ t : State, t.heap = H → Qc args s (.returned rv) t) → (∀ q ∈ locs, free q.base) → decode cc pc = .ok (iret, 1) → W p l e rm s m args below meth c H locs 0 0 (MQ below Qc args s 0 0 free) (F0 m pc ls rv.toList))
    (body : CtBody l y ws rm D cI wc wc' av cc maxL iret rv.toList) : Ct l y ws rm D cI wc wc' av rv := by
  intro sz
  refine Met.ofW (cc := cc) (maxL := maxL) (ret := ret) hy hw ?_
  intro p e s m args below meth c s₁ B hml hv
  obtain ⟨rfl, hsz, hP, hK, hD0⟩ := hv
  subst hsz
  have hD := hD0.self (sz := s.heap.size)
  have hl := lv_entry av (n := maxL) hav
  rw [lg_entry_eq]
  refine body p e s m av.toArray below meth c (va_A wc s.heap.size) _ s.heap [] _ B.exec B.bytes hml (findClass_of_methodNamed B.named) (atoms_spec (ws := ws) B.pre) (fun q h => Or.inr h) hK hP hD va_S.rf hl ?_
  intro H locs pc ls hP2 hS2 hd
  exact hret p e s m av.toArray below meth c _ _ H locs pc ls B.exec B.bytes B.returns B.notSynchronized (fun t ht => ⟨rfl, by rw [ht]; exact hP2, hS2.F ht⟩) hS2.2.2 hd
theorem Ct.ofI {v : Int32} (hy : plainName y.cls = true) (hw : ws = Cond.code y cc maxL (some .int) :: ws') (hav : (lg_sl av).length ≤ maxL) (body : CtBody l y ws rm D cI wc wc' av cc maxL .ireturn [.int v]) : Ct l y ws rm D cI wc wc' av (some (.int v)) :=
  Ct.of hy hw hav (fun p e s m args below meth c Qc free H locs pc ls hx hb hr hlk hq hf hd => W.iret hx hb hr (fun t ht _ => hq t ht) hf hd hlk) body
theorem Ct.ofZ {v : Int32} (hn : v = 0 ∨ v = 1) (hy : plainName y.cls = true) (hw : ws = Cond.code y cc maxL (some .boolean) :: ws') (hav : (lg_sl av).length ≤ maxL) (body : CtBody l y ws rm D cI wc wc' av cc maxL .ireturn [.int v]) : Ct l y ws rm D cI wc wc' av (some (.int v)) :=
  Ct.of hy hw hav (fun p e s m args below meth c Qc free H locs pc ls hx hb hr hlk hq hf hd => W.zret hx hb hr (nar_b hn) (fun t ht _ => hq t ht) hf hd hlk) body
theorem Ct.ofL {v : Int64} (hy : plainName y.cls = true) (hw : ws = Cond.code y cc maxL (some .long) :: ws') (hav : (lg_sl av).length ≤ maxL) (body : CtBody l y ws rm D cI wc wc' av cc maxL .lreturn [.long v]) : Ct l y ws rm D cI wc wc' av (some (.long v)) :=
  Ct.of hy hw hav (fun p e s m args below meth c Qc free H locs pc ls hx hb hr hlk hq hf hd => W.lret hx hb hr (fun t ht _ => hq t ht) hf hd hlk) body
theorem Ct.ofV (hy : plainName y.cls = true) (hw : ws = Cond.code y cc maxL none :: ws') (hav : (lg_sl av).length ≤ maxL) (body : CtBody l y ws rm D cI wc wc' av cc maxL .return_ []) : Ct l y ws rm D cI wc wc' av none :=
  Ct.of hy hw hav (fun p e s m args below meth c Qc free H locs pc ls hx hb hr hlk hq hf hd => W.vret hx hb hr (fun t ht _ => hq t ht) hf hd hlk) body
end CtOf
section CtCall
variable {p : Program} {l : Launch} {e : Env} {R : Room} {s : State} {m : MethodId} {args : Array Value} {below : List Frame} {meth : Method} {c : Code} {H : Heap} {locs : List Loc} {Q : State → Prop}
variable {y : MethodName} {bytes cc : ByteArray} {maxL nL n index : Nat} {ret : Option FieldType} {wsy : List Cond} {rm : Room} {Ts : List Cond} {own C : String} {b : Addr} {As rest st0 st1 : List Value} {D : va_G} {cI : ClassId} {wc wc' ws ws' : va_W} {rv : Option Value} {pc : Nat} {ls : Array Slot} {A : Nat → Prop}
theorem Ct.back {av : List Value} {k n0 : Nat} (hr : va_Run p l e R s m args below meth c H locs k n0 0 0 (F0 m pc ls st0) rest ((fun _ st oc t => oc = .returned rv ∧ va_P D vwCl wc' t.heap ∧ va_F (va_A wc H.size) st t) av.toArray) (va_A wc H.size))
    (hL : Ln ws wc ws' wc') (hA : ∀ q : Nat, s.heap.size ≤ q → A q) (hP : va_P D vwCl ws H) (hD : va_D A ws) (hS : va_S A s.heap H locs)
    (kk : ∀ (H1 : Heap) (locs1 : List Loc), va_P D vwCl ws' H1 → va_D A ws' → va_S A s.heap H1 locs1 → W p l e R s m args below meth c H1 locs1 k n0 Q (F0 m (pc + 3) ls (rv.toList ++ rest))) :
    W p l e R s m args below meth c H locs k n0 Q (F0 m pc ls st0) := by
  intro T hT X
  obtain ⟨is, hC, hnd, hc', hw', hat⟩ := hL
  have hF : ∀ q, va_A wc H.size q → A q := va_free hD hS hA is hC
  obtain ⟨v, st₀, t, T', L, h0, X', hLf, e1, e2, ⟨hv, hPt, hz, hk⟩, st⟩ := hr T hT X
  cases hv
  rw [h0] at hz hk
  rw [← e1] at hz hk hPt
  have hP' : va_P D vwCl ws' T'.heap := by
    intro k q hq
    rcases hat k q hq with ⟨hni, hws⟩ | ⟨j, hj⟩
    · refine (hP k q hws).kept (hk q.1 (hP k q hws).lt ?_)
      intro hin
      rcases hin with ⟨k2, e3, h3⟩ | h3
      · have h1 : (is.map (fun i => ws[i]?))[k2]? = some (some (q.1, e3)) := by rw [hC, List.getElem?_map, h3]; rfl
        rw [List.getElem?_map] at h1
        cases hi : is[k2]? with
        | none => rw [hi] at h1; cases h1
        | some i =>
          rw [hi] at h1
          have h4 : ws[i]? = some (q.1, e3) := Option.some.inj h1
          have hik := hD.1 i k _ q h4 hws rfl
          subst hik
          exact hni (List.mem_of_getElem? hi)
      · exact absurd (hP k q hws).lt (Nat.not_lt.mpr h3)
    · exact hPt j q hj
  obtain ⟨t2, a1, b1⟩ := kk T'.heap (locs ++ L) hP' (hD.same hw')
    ⟨Nat.le_trans hS.1 hz, fun q h1 h2 => by rw [hk q (Nat.lt_of_lt_of_le h1 hS.1) (fun z => h2 (hF q z))]; exact hS.2.1 q h1 h2, fun q hq => by
      rcases List.mem_append.mp hq with h | h
      · exact hS.2.2 q h
      · exact hF _ (hLf q h)⟩ T' rfl X'
  exact ⟨t2, st t2 a1, b1⟩
theorem Ct.pre {av : List Value} {sz : Nat} : FrameBlind (va_Pc av (fun U => U.heap.size = sz ∧ va_P D vwCl wc U.heap ∧ va_K D vwCl [(cI, .int)] U ∧ va_D (fun _ => True) wc)) := fun a U g mk q => by
  obtain ⟨q0, q1, qP, qK, qD⟩ := q
  exact ⟨q0, q1, qP, va_K.moved (u := U) (U := U.calling g mk a) (Vm.Alike.refl U.vm) qK, qD⟩
theorem Ct.start (hL : Ln ws wc ws' wc') (hK : va_K D vwCl [(cI, .int)] s) (hP : va_P D vwCl ws H) (hD : va_D A ws) (av : List Value) (U : State) (hU : U.heap = H) (hW : s.WarmedH U.vm) : va_Pc av (fun U => U.heap.size = H.size ∧ va_P D vwCl wc U.heap ∧ va_K D vwCl [(cI, .int)] U ∧ va_D (fun _ => True) wc) av.toArray U := by
  obtain ⟨is, hC, hnd, -, -, -⟩ := hL
  refine ⟨rfl, by rw [hU], ?_, va_K.moved hW.alike hK, (hD.sub is hnd hC).weaken (fun _ _ _ _ => trivial)⟩
  rw [hU]
  intro k q hk
  have h1 : (is.map (fun i => ws[i]?))[k]? = some (some q) := by rw [hC, List.getElem?_map, hk]; rfl
  rw [List.getElem?_map] at h1
  cases hi : is[k]? with
  | none => rw [hi] at h1; cases h1
  | some i => rw [hi] at h1; exact hP i q (Option.some.inj h1)
theorem Ct.callVg {k n0 : Nat} (hcs : k ≤ R.cells ∧ n0 ≤ R.slots) (hM : Ct l y wsy rm D cI wc wc' (.ref b :: As) rv) (hx : p.tables.exec = Jvm.exec) (hb : c.code = cc) (hml : c.maxLocals = nL) (hown : s.vm.findClass own = some m.cls) (hts : ∀ w ∈ Ts, w.before args s = true) (cw : CallW R s args own C index y bytes maxL ret wsy rm 0 0 n)
    (hrc : ∃ cell : Cell, H[b]? = some cell ∧ cell.vm.isStatics = false ∧ s.vm.findClass C = some cell.cls) (hL : Ln ws wc ws' wc') (hA : ∀ q : Nat, s.heap.size ≤ q → A q) (hK : va_K D vwCl [(cI, .int)] s) (hP : va_P D vwCl ws H) (hD : va_D A ws) (hS : va_S A s.heap H locs)
    (hn : As.length = n) (hsize : ls.size = nL) (hst : st0 = As.reverse ++ .ref b :: rest) (h1 : rv.toList ++ rest = st1) (hW : (rest.map fun v => v.category).sum ≤ 8) (hdg : decode cc pc = .ok (.invokevirtual index, 3))
    (kk : ∀ (H1 : Heap) (locs1 : List Loc), va_P D vwCl ws' H1 → va_D A ws' → va_S A s.heap H1 locs1 → W p l e R s m args below meth c H1 locs1 k n0 Q (F0 m (pc + 3) ls st1)) :
    W p l e R s m args below meth c H locs k n0 Q (F0 m pc ls st0) := by
  subst h1
  exact Ct.back (av := .ref b :: As) (va_runV (g := F0 m pc ls st0) (As := As) (rest := rest) ⟨hx, hb, hml, hown, hts⟩ (hM H.size) cw ⟨Ct.pre, hrc, fun U hU hW => Ct.start hL hK hP hD (.ref b :: As) U hU hW⟩ rfl hn hsize hst (lv_room hW) hdg hcs) hL hA hP hD hS kk
theorem Ct.callV (hM : Ct l y wsy rm D cI wc wc' (.ref b :: As) rv) (hx : p.tables.exec = Jvm.exec) (hb : c.code = cc) (hml : c.maxLocals = nL) (hown : s.vm.findClass own = some m.cls) (hts : ∀ w ∈ Ts, w.before args s = true) (cw : CallW R s args own C index y bytes maxL ret wsy rm 0 0 n)
    (hrc : ∃ cell : Cell, H[b]? = some cell ∧ cell.vm.isStatics = false ∧ s.vm.findClass C = some cell.cls) (hL : Ln ws wc ws' wc') (hA : ∀ q : Nat, s.heap.size ≤ q → A q) (hK : va_K D vwCl [(cI, .int)] s) (hP : va_P D vwCl ws H) (hD : va_D A ws) (hS : va_S A s.heap H locs)
    (hn : As.length = n) (hsize : ls.size = nL) (hst : st0 = As.reverse ++ .ref b :: rest) (h1 : rv.toList ++ rest = st1) (hW : (rest.map fun v => v.category).sum ≤ 8) (hdg : decode cc pc = .ok (.invokevirtual index, 3))
    (kk : ∀ (H1 : Heap) (locs1 : List Loc), va_P D vwCl ws' H1 → va_D A ws' → va_S A s.heap H1 locs1 → W p l e R s m args below meth c H1 locs1 0 0 Q (F0 m (pc + 3) ls st1)) :
    W p l e R s m args below meth c H locs 0 0 Q (F0 m pc ls st0) := by
  subst h1
  exact Ct.back (av := .ref b :: As) (va_runV (g := F0 m pc ls st0) (As := As) (rest := rest) ⟨hx, hb, hml, hown, hts⟩ (hM H.size) cw ⟨Ct.pre, hrc, fun U hU hW => Ct.start hL hK hP hD (.ref b :: As) U hU hW⟩ rfl hn hsize hst (lv_room hW) hdg ⟨Nat.zero_le _, Nat.zero_le _⟩) hL hA hP hD hS kk
theorem Ct.callS (hM : Ct l y wsy rm D cI wc wc' As rv) (hx : p.tables.exec = Jvm.exec) (hb : c.code = cc) (hml : c.maxLocals = nL) (hown : s.vm.findClass own = some m.cls) (hts : ∀ w ∈ Ts, w.before args s = true) (cw : CallB R s args own index y bytes maxL ret wsy rm 0 0 n ∧ (Cond.static y).before args s = true)
    (hL : Ln ws wc ws' wc') (hA : ∀ q : Nat, s.heap.size ≤ q → A q) (hK : va_K D vwCl [(cI, .int)] s) (hP : va_P D vwCl ws H) (hD : va_D A ws) (hS : va_S A s.heap H locs)
    (hn : As.length = n) (hsize : ls.size = nL) (hst : st0 = As.reverse ++ rest) (h1 : rv.toList ++ rest = st1) (hW : (rest.map fun v => v.category).sum ≤ 8) (hdg : decode cc pc = .ok (.invokestatic index, 3))
    (kk : ∀ (H1 : Heap) (locs1 : List Loc), va_P D vwCl ws' H1 → va_D A ws' → va_S A s.heap H1 locs1 → W p l e R s m args below meth c H1 locs1 0 0 Q (F0 m (pc + 3) ls st1)) :
    W p l e R s m args below meth c H locs 0 0 Q (F0 m pc ls st0) := by
  subst h1
  exact Ct.back (av := As) (va_runS (g := F0 m pc ls st0) (As := As) (rest := rest) ⟨hx, hb, hml, hown, hts⟩ (hM H.size) cw ⟨Ct.pre, fun U hU hW => Ct.start hL hK hP hD As U hU hW⟩ rfl hn hsize hst (lv_room hW) hdg ⟨Nat.zero_le _, Nat.zero_le _⟩) hL hA hP hD hS kk
end CtCall
