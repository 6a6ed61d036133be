/-! THE TEXTS: the five String constants of the class Letters, by their places, and contracts beside them -/
def SFx (adK adV : Nat → Nat) (A : Nat → Prop) (U : State) (H : Heap) : Prop := vk_S 5 lenS bytS adK adV A U H ∧ va_Z "java/lang/String" "COMPACT_STRINGS" "Z" (.int 1) A U H ∧ va_Zq "jdk/internal/util/Preconditions" "SIOOBE_FORMATTER" "Ljava/util/function/BiFunction;" A U H ∧ (vk_R RX1 36 "" (adK 0) U ∧ vk_R RX1 60 "hpmsab" (adK 1) U ∧ vk_R RX1 50 "9;" (adK 2) U ∧ vk_R RX1 52 "k999;" (adK 3) U ∧ vk_R RX1 54 "99;" (adK 4) U)
theorem SFx.kept {adK adV : Nat → Nat} {A : Nat → Prop} {U : State} {H H1 : Heap} (h : SFx adK adV A U H) (hq : ∀ a : Nat, a < H.size → ¬ A a → H1[a]? = H[a]?) : SFx adK adV A U H1 := ⟨h.1.kept hq, h.2.1.kept hq, h.2.2.1.kept hq, h.2.2.2⟩
theorem SFx.narrow {adK adV : Nat → Nat} {A B : Nat → Prop} {U : State} {H : Heap} (h : SFx adK adV A U H) (hAB : ∀ q, B q → A q) : SFx adK adV B U H := ⟨h.1.narrow hAB, h.2.1.narrow hAB, h.2.2.1.narrow hAB, h.2.2.2⟩
theorem SFx.warm {adK adV : Nat → Nat} {A : Nat → Prop} {s U : State} {H : Heap} (hW : s.WarmedH U.vm) (h : SFx adK adV A s H) : SFx adK adV A U H := ⟨h.1.moved hW.alike, h.2.1.moved hW.alike, h.2.2.1.moved hW.alike, h.2.2.2.1.warm hW, h.2.2.2.2.1.warm hW, h.2.2.2.2.2.1.warm hW, h.2.2.2.2.2.2.1.warm hW, h.2.2.2.2.2.2.2.warm hW⟩
theorem SFx.same {adK adV : Nat → Nat} {A : Nat → Prop} {u U : State} {H : Heap} (hv : U.vm = u.vm) (h : SFx adK adV A u H) : SFx adK adV A U H := by
  have ha : u.vm.Alike U.vm := by rw [hv]; exact Vm.Alike.refl _
  exact ⟨h.1.moved ha, h.2.1.moved ha, h.2.2.1.moved ha, h.2.2.2.1.same hv, h.2.2.2.2.1.same hv, h.2.2.2.2.2.1.same hv, h.2.2.2.2.2.2.1.same hv, h.2.2.2.2.2.2.2.same hv⟩
theorem fnB_e {x : Option Int32} {r : Int32} (h : fn .byte x = some r) : narrow .byte (.int r) = .int r ∧ x = some r := by
  unfold fn at h
  obtain ⟨a, h1, h2⟩ := bd_e h
  obtain ⟨h3, h4⟩ := gd_e h2
  cases h4
  exact ⟨by show Value.int (vp_nar .byte _) = _; rw [h3], h1⟩
theorem fnC_e {x : Option Int32} {r : Int32} (h : fn .char x = some r) : narrow .char (.int r) = .int r ∧ x = some r := by
  unfold fn at h
  obtain ⟨a, h1, h2⟩ := bd_e h
  obtain ⟨h3, h4⟩ := gd_e h2
  cases h4
  exact ⟨by show Value.int (vp_nar .char _) = _; rw [h3], h1⟩
def Cw (l : Launch) (y : MethodName) (ws : List Cond) (rm : Room) (D : va_G) (cI : ClassId) (adK adV : Nat → Nat) (wc wc' : va_W) (av : List Value) (rv : Option Value) : Prop :=
  ∀ sz : Nat, Met l y ws rm (va_Pc av (fun U => U.heap.size = sz ∧ va_P D vwCl wc U.heap ∧ va_K D vwCl [(cI, .int)] U ∧ va_D (fun _ => True) wc ∧ SFx adK adV (va_A wc sz) U U.heap)) (fun _ st oc t => oc = .returned rv ∧ va_P D vwCl wc' t.heap ∧ va_F (va_A wc sz) st t) 0 0 (va_A wc sz)
section CwOf
variable {l : Launch} {y : MethodName} {ws ws' : List Cond} {rm : Room} {D : va_G} {cI : ClassId} {adK adV : Nat → Nat} {wc wc' : va_W} {av : List Value} {cc : ByteArray} {maxL : Nat}
def CwBody (l : Launch) (y : MethodName) (ws : List Cond) (rm : Room) (D : va_G) (cI : ClassId) (adK adV : Nat → Nat) (wc wc' : va_W) (av : List Value) (cc : ByteArray) (maxL : Nat) (iret : Instr) (rst : List Value) : Prop :=
  ∀ (p : Program) (e : Env) (s : State) (m : MethodId) (args : Array Value) (below : List Frame) (meth : Method) (c : Code) (A : Nat → Prop) (Q : State → Prop) (H : Heap) (locs : List Loc) (ls : Array Slot),
    p.tables.exec = Jvm.exec → c.code = cc → c.maxLocals = maxL → s.vm.findClass y.cls = some m.cls → (∀ w ∈ ws, w.before args s = true) → (∀ q : Nat, s.heap.size ≤ q → A q) → va_K D vwCl [(cI, .int)] s → SFx adK adV A s s.heap → va_P D vwCl wc H → va_D A wc → va_S A s.heap H locs → lv_has ls maxL (lv_args 0 av) →
    (∀ (H : Heap) (locs : List Loc) (pc : Nat) (ls : Array Slot), va_P D vwCl wc' H → va_S A s.heap H locs → decode cc pc = .ok (iret, 1) → W p l e rm s m args below meth c H locs 0 0 Q (F0 m pc ls rst)) →
    W p l e rm s m args below meth c H locs 0 0 Q (F0 m 0 ls [])
theorem Cw.of {rv : Option Value} {iret : Instr} {ret : Option FieldType} (hy : plainName y.cls = true) (hw : ws = Cond.code y cc maxL ret :: ws') (hav : (lg_sl av).length ≤ maxL)
    (hret : ∀ (p : Program) (e : Env) (s : State) (m : MethodId) (args : Array Value) (below : List Frame) (meth : Method) (c : Code) (Qc : Array Value → State → Outcome → State → Prop) (free : Addr → Prop) (H : Heap) (locs : List Loc) (pc : Nat) (ls : Array Slot), p.tables.exec = Jvm.exec → c.code = cc → meth.sig.returnType = ret → meth.locks = false → (∀ t : State, t.heap = H → Qc args s (.returned rv) t) → (∀ q ∈ locs, free q.base) → decode cc pc = .ok (iret, 1) → W p l e rm s m args below meth c H locs 0 0 (MQ below Qc args s 0 0 free) (F0 m pc ls rv.toList))
    (body : CwBody l y ws rm D cI adK adV wc wc' av cc maxL iret rv.toList) : Cw l y ws rm D cI adK adV wc wc' av rv := by
  intro sz
  refine Met.ofW (cc := cc) (maxL := maxL) (ret := ret) hy hw ?_
  intro p e s m args below meth c s₁ B hml hv
  obtain ⟨rfl, hsz, hP, hK, hD0, hE⟩ := hv
  subst hsz
  have hD := hD0.self (sz := s.heap.size)
  have hl := lv_entry av (n := maxL) hav
  rw [lg_entry_eq]
  refine body p e s m av.toArray below meth c (va_A wc s.heap.size) _ s.heap [] _ B.exec B.bytes hml (findClass_of_methodNamed B.named) (atoms_spec (ws := ws) B.pre) (fun q h => Or.inr h) hK hE hP hD va_S.rf hl ?_
  intro H locs pc ls hP2 hS2 hd
  exact hret p e s m av.toArray below meth c _ _ H locs pc ls B.exec B.bytes B.returns B.notSynchronized (fun t ht => ⟨rfl, by rw [ht]; exact hP2, hS2.F ht⟩) hS2.2.2 hd
theorem Cw.ofI {v : Int32} (hy : plainName y.cls = true) (hw : ws = Cond.code y cc maxL (some .int) :: ws') (hav : (lg_sl av).length ≤ maxL) (body : CwBody l y ws rm D cI adK adV wc wc' av cc maxL .ireturn [.int v]) : Cw l y ws rm D cI adK adV wc wc' av (some (.int v)) :=
  Cw.of hy hw hav (fun p e s m args below meth c Qc free H locs pc ls hx hb hr hlk hq hf hd => W.iret hx hb hr (fun t ht _ => hq t ht) hf hd hlk) body
theorem Cw.ofN {v : Int32} {ty : FieldType} (hn : narrow ty (.int v) = .int v) (hy : plainName y.cls = true) (hw : ws = Cond.code y cc maxL (some ty) :: ws') (hav : (lg_sl av).length ≤ maxL) (body : CwBody l y ws rm D cI adK adV wc wc' av cc maxL .ireturn [.int v]) : Cw l y ws rm D cI adK adV wc wc' av (some (.int v)) :=
  Cw.of hy hw hav (fun p e s m args below meth c Qc free H locs pc ls hx hb hr hlk hq hf hd => W.zret hx hb hr hn (fun t ht _ => hq t ht) hf hd hlk) body
theorem Cw.ofV (hy : plainName y.cls = true) (hw : ws = Cond.code y cc maxL none :: ws') (hav : (lg_sl av).length ≤ maxL) (body : CwBody l y ws rm D cI adK adV wc wc' av cc maxL .return_ []) : Cw l y ws rm D cI adK adV wc wc' av none :=
  Cw.of hy hw hav (fun p e s m args below meth c Qc free H locs pc ls hx hb hr hlk hq hf hd => W.vret hx hb hr (fun t ht _ => hq t ht) hf hd hlk) body
theorem Cw.ofR {a : Nat} {nm : String} (hy : plainName y.cls = true) (hw : ws = Cond.code y cc maxL (some (.object nm)) :: ws') (hav : (lg_sl av).length ≤ maxL) (body : CwBody l y ws rm D cI adK adV wc wc' av cc maxL .areturn [.ref a]) : Cw l y ws rm D cI adK adV wc wc' av (some (.ref a)) :=
  Cw.of hy hw hav (fun p e s m args below meth c Qc free H locs pc ls hx hb hr hlk hq hf hd => W.aret hx hb hr (Or.inl ⟨_, rfl⟩) (Or.inr ⟨_, rfl⟩) (fun t ht _ => hq t ht) hf hd hlk) body
end CwOf
section CwCall
variable {p : Program} {l : Launch} {e : Env} {R : Room} {s : State} {m : MethodId} {args : Array Value} {below : List Frame} {meth : Method} {c : Code} {H : Heap} {locs : List Loc} {Q : State → Prop}
variable {y : MethodName} {bytes cc : ByteArray} {maxL nL n index : Nat} {ret : Option FieldType} {wsy : List Cond} {rm : Room} {Ts : List Cond} {own C : String} {b : Addr} {As rest st0 st1 : List Value} {D : va_G} {cI : ClassId} {adK adV : Nat → Nat} {wc wc' ws ws' : va_W} {rv : Option Value} {pc : Nat} {ls : Array Slot} {A : Nat → Prop}
theorem Cw.pre {av : List Value} {sz : Nat} : FrameBlind (va_Pc av (fun U => U.heap.size = sz ∧ va_P D vwCl wc U.heap ∧ va_K D vwCl [(cI, .int)] U ∧ va_D (fun _ => True) wc ∧ SFx adK adV (va_A wc sz) U U.heap)) := fun a U g mk q => by
  obtain ⟨q0, q1, qP, qK, qD, qE⟩ := q
  exact ⟨q0, q1, qP, va_K.moved (u := U) (U := U.calling g mk a) (Vm.Alike.refl U.vm) qK, qD, SFx.same (u := U) (U := U.calling g mk a) rfl qE⟩
theorem Cw.start (hE : SFx adK adV A s s.heap) (hL : Ln ws wc ws' wc') (hA : ∀ q : Nat, s.heap.size ≤ q → A q) (hK : va_K D vwCl [(cI, .int)] s) (hP : va_P D vwCl ws H) (hD : va_D A ws) (hS : va_S A s.heap H locs) (av : List Value) (U : State) (hU : U.heap = H) (hW : s.WarmedH U.vm) : va_Pc av (fun U => U.heap.size = H.size ∧ va_P D vwCl wc U.heap ∧ va_K D vwCl [(cI, .int)] U ∧ va_D (fun _ => True) wc ∧ SFx adK adV (va_A wc H.size) U U.heap) av.toArray U := by
  obtain ⟨h1, h2, h3, h4, h5⟩ := Ct.start hL hK hP hD av U hU hW
  obtain ⟨is, hC, -, -, -, -⟩ := hL
  refine ⟨h1, h2, h3, h4, h5, ?_⟩
  rw [hU]
  exact ((hE.kept hS.2.1).narrow (va_free hD hS hA is hC)).warm hW
theorem Cw.callVg {k n0 : Nat} (hcs : k ≤ R.cells ∧ n0 ≤ R.slots) (hM : Cw l y wsy rm D cI adK adV wc wc' (.ref b :: As) rv) (hE : SFx adK adV A s s.heap) (hx : p.tables.exec = Jvm.exec) (hb : c.code = cc) (hml : c.maxLocals = nL) (hown : s.vm.findClass own = some m.cls) (hts : ∀ w ∈ Ts, w.before args s = true) (cw : CallW R s args own C index y bytes maxL ret wsy rm 0 0 n)
    (hrc : ∃ cell : Cell, H[b]? = some cell ∧ cell.vm.isStatics = false ∧ s.vm.findClass C = some cell.cls) (hL : Ln ws wc ws' wc') (hA : ∀ q : Nat, s.heap.size ≤ q → A q) (hK : va_K D vwCl [(cI, .int)] s) (hP : va_P D vwCl ws H) (hD : va_D A ws) (hS : va_S A s.heap H locs)
    (hn : As.length = n) (hsize : ls.size = nL) (hst : st0 = As.reverse ++ .ref b :: rest) (h1 : rv.toList ++ rest = st1) (hW : (rest.map fun v => v.category).sum ≤ 8) (hdg : decode cc pc = .ok (.invokevirtual index, 3))
    (kk : ∀ (H1 : Heap) (locs1 : List Loc), va_P D vwCl ws' H1 → va_D A ws' → va_S A s.heap H1 locs1 → W p l e R s m args below meth c H1 locs1 k n0 Q (F0 m (pc + 3) ls st1)) :
    W p l e R s m args below meth c H locs k n0 Q (F0 m pc ls st0) := by
  subst h1
  exact Ct.back (av := .ref b :: As) (va_runV (g := F0 m pc ls st0) (As := As) (rest := rest) ⟨hx, hb, hml, hown, hts⟩ (hM H.size) cw ⟨Cw.pre, hrc, fun U hU hW => Cw.start hE hL hA hK hP hD hS (.ref b :: As) U hU hW⟩ rfl hn hsize hst (lv_room hW) hdg hcs) hL hA hP hD hS kk
theorem Cw.callV (hM : Cw l y wsy rm D cI adK adV wc wc' (.ref b :: As) rv) (hE : SFx adK adV A s s.heap) (hx : p.tables.exec = Jvm.exec) (hb : c.code = cc) (hml : c.maxLocals = nL) (hown : s.vm.findClass own = some m.cls) (hts : ∀ w ∈ Ts, w.before args s = true) (cw : CallW R s args own C index y bytes maxL ret wsy rm 0 0 n)
    (hrc : ∃ cell : Cell, H[b]? = some cell ∧ cell.vm.isStatics = false ∧ s.vm.findClass C = some cell.cls) (hL : Ln ws wc ws' wc') (hA : ∀ q : Nat, s.heap.size ≤ q → A q) (hK : va_K D vwCl [(cI, .int)] s) (hP : va_P D vwCl ws H) (hD : va_D A ws) (hS : va_S A s.heap H locs)
    (hn : As.length = n) (hsize : ls.size = nL) (hst : st0 = As.reverse ++ .ref b :: rest) (h1 : rv.toList ++ rest = st1) (hW : (rest.map fun v => v.category).sum ≤ 8) (hdg : decode cc pc = .ok (.invokevirtual index, 3))
    (kk : ∀ (H1 : Heap) (locs1 : List Loc), va_P D vwCl ws' H1 → va_D A ws' → va_S A s.heap H1 locs1 → W p l e R s m args below meth c H1 locs1 0 0 Q (F0 m (pc + 3) ls st1)) :
    W p l e R s m args below meth c H locs 0 0 Q (F0 m pc ls st0) := by
  subst h1
  exact Ct.back (av := .ref b :: As) (va_runV (g := F0 m pc ls st0) (As := As) (rest := rest) ⟨hx, hb, hml, hown, hts⟩ (hM H.size) cw ⟨Cw.pre, hrc, fun U hU hW => Cw.start hE hL hA hK hP hD hS (.ref b :: As) U hU hW⟩ rfl hn hsize hst (lv_room hW) hdg ⟨Nat.zero_le _, Nat.zero_le _⟩) hL hA hP hD hS kk
theorem Cw.callS (hM : Cw l y wsy rm D cI adK adV wc wc' As rv) (hE : SFx adK adV A s s.heap) (hx : p.tables.exec = Jvm.exec) (hb : c.code = cc) (hml : c.maxLocals = nL) (hown : s.vm.findClass own = some m.cls) (hts : ∀ w ∈ Ts, w.before args s = true) (cw : CallB R s args own index y bytes maxL ret wsy rm 0 0 n ∧ (Cond.static y).before args s = true)
    (hL : Ln ws wc ws' wc') (hA : ∀ q : Nat, s.heap.size ≤ q → A q) (hK : va_K D vwCl [(cI, .int)] s) (hP : va_P D vwCl ws H) (hD : va_D A ws) (hS : va_S A s.heap H locs)
    (hn : As.length = n) (hsize : ls.size = nL) (hst : st0 = As.reverse ++ rest) (h1 : rv.toList ++ rest = st1) (hW : (rest.map fun v => v.category).sum ≤ 8) (hdg : decode cc pc = .ok (.invokestatic index, 3))
    (kk : ∀ (H1 : Heap) (locs1 : List Loc), va_P D vwCl ws' H1 → va_D A ws' → va_S A s.heap H1 locs1 → W p l e R s m args below meth c H1 locs1 0 0 Q (F0 m (pc + 3) ls st1)) :
    W p l e R s m args below meth c H locs 0 0 Q (F0 m pc ls st0) := by
  subst h1
  exact Ct.back (av := As) (va_runS (g := F0 m pc ls st0) (As := As) (rest := rest) ⟨hx, hb, hml, hown, hts⟩ (hM H.size) cw ⟨Cw.pre, fun U hU hW => Cw.start hE hL hA hK hP hD hS As U hU hW⟩ rfl hn hsize hst (lv_room hW) hdg ⟨Nat.zero_le _, Nat.zero_le _⟩) hL hA hP hD hS kk
end CwCall
