/-! THE TEXTS: the five String constants of the class Letters, by their places, and contracts beside them -/
def lenS : List Nat := [0, 6, 2, 5, 3]
def bytS : List (List Int32) := [[], [104, 112, 109, 115, 97, 98], [57, 59], [107, 57, 57, 57, 59], [57, 57, 59]]
def SFx (adK adV : Nat → Nat) (A : Nat → Prop) (U : State) (H : Heap) : Prop := vk_S 5 lenS bytS adK adV A U H ∧ va_Z "java/lang/String" "COMPACT_STRINGS" "Z" (.int 1) A U H ∧ va_Zq "jdk/internal/util/Preconditions" "SIOOBE_FORMATTER" "Ljava/util/function/BiFunction;" A U H ∧ (vk_R RX1 36 "" (adK 0) U ∧ vk_R RX1 60 "hpmsab" (adK 1) U ∧ vk_R RX1 50 "9;" (adK 2) U ∧ vk_R RX1 52 "k999;" (adK 3) U ∧ vk_R RX1 54 "99;" (adK 4) U)
theorem SFx.kept {adK adV : Nat → Nat} {A : Nat → Prop} {U : State} {H H1 : Heap} (h : SFx adK adV A U H) (hq : ∀ a : Nat, a < H.size → ¬ A a → H1[a]? = H[a]?) : SFx adK adV A U H1 := ⟨h.1.kept hq, h.2.1.kept hq, h.2.2.1.kept hq, h.2.2.2⟩
theorem SFx.narrow {adK adV : Nat → Nat} {A B : Nat → Prop} {U : State} {H : Heap} (h : SFx adK adV A U H) (hAB : ∀ q, B q → A q) : SFx adK adV B U H := ⟨h.1.narrow hAB, h.2.1.narrow hAB, h.2.2.1.narrow hAB, h.2.2.2⟩
theorem SFx.warm {adK adV : Nat → Nat} {A : Nat → Prop} {s U : State} {H : Heap} (hW : s.WarmedH U.vm) (h : SFx adK adV A s H) : SFx adK adV A U H := ⟨h.1.moved hW.alike, h.2.1.moved hW.alike, h.2.2.1.moved hW.alike, h.2.2.2.1.warm hW, h.2.2.2.2.1.warm hW, h.2.2.2.2.2.1.warm hW, h.2.2.2.2.2.2.1.warm hW, h.2.2.2.2.2.2.2.warm hW⟩
theorem SFx.same {adK adV : Nat → Nat} {A : Nat → Prop} {u U : State} {H : Heap} (hv : U.vm = u.vm) (h : SFx adK adV A u H) : SFx adK adV A U H := by
  have ha : u.vm.Alike U.vm := by rw [hv]; exact Vm.Alike.refl _
  exact ⟨h.1.moved ha, h.2.1.moved ha, h.2.2.1.moved ha, h.2.2.2.1.same hv, h.2.2.2.2.1.same hv, h.2.2.2.2.2.1.same hv, h.2.2.2.2.2.2.1.same hv, h.2.2.2.2.2.2.2.same hv⟩
def fn (ty : FieldType) (x : Option Int32) : Option Int32 := bd x fun a => gd (vp_nar ty a = a) (some a)
theorem fnB_e {x : Option Int32} {r : Int32} (h : fn .byte x = some r) : narrow .byte (.int r) = .int r ∧ x = some r := by
  unfold fn at h
  obtain ⟨a, h1, h2⟩ := bd_e h
  obtain ⟨h3, h4⟩ := gd_e h2
  cases h4
  exact ⟨by show Value.int (vp_nar .byte _) = _; rw [h3], h1⟩
theorem fnC_e {x : Option Int32} {r : Int32} (h : fn .char x = some r) : narrow .char (.int r) = .int r ∧ x = some r := by
  unfold fn at h
  obtain ⟨a, h1, h2⟩ := bd_e h
  obtain ⟨h3, h4⟩ := gd_e h2
  cases h4
  exact ⟨by show Value.int (vp_nar .char _) = _; rw [h3], h1⟩
def Cw (l : Launch) (y : MethodName) (ws : List Cond) (rm : Room) (D : va_G) (cI : ClassId) (adK adV : Nat → Nat) (wc wc' : va_W) (av : List Value) (rv : Option Value) : Prop :=
  ∀ sz : Nat, Met l y ws rm (va_Pc av (fun U => U.heap.size = sz ∧ va_P D vwCl wc U.heap ∧ va_K D vwCl [(cI, .int)] U ∧ va_D (fun _ => True) wc ∧ SFx adK adV (va_A wc sz) U U.heap)) (fun _ st oc t => oc = .returned rv ∧ va_P D vwCl wc' t.heap ∧ va_F (va_A wc sz) st t) 0 0 (va_A wc sz)
section CwOf
variable {l : Launch} {y : MethodName} {ws ws' : List Cond} {rm : Room} {D : va_G} {cI : ClassId} {adK adV : Nat → Nat} {wc wc' : va_W} {av : List Value} {cc : ByteArray} {maxL : Nat}
def CwBody (l : Launch) (y : MethodName) (ws : List Cond) (rm : Room) (D : va_G) (cI : ClassId) (adK adV : Nat → Nat) (wc wc' : va_W) (av : List Value) (cc : ByteArray) (maxL : Nat) (iret : Instr) (rst : List Value) : Prop :=
  ∀ (p : Program) (e : Env) (s : State) (m : MethodId) (args : Array Value) (below : List Frame) (meth : Method) (c : Code) (A : Nat → Prop) (Q : State → Prop) (H : Heap) (locs : List Loc) (ls : Array Slot),
    p.tables.exec = Jvm.exec → c.code = cc → c.maxLocals = maxL → s.vm.findClass y.cls = some m.cls → (∀ w ∈ ws, w.before args s = true) → (∀ q : Nat, s.heap.size ≤ q → A q) → va_K D vwCl [(cI, .int)] s → SFx adK adV A s s.heap → va_P D vwCl wc H → va_D A wc → va_S A s.heap H locs → lv_has ls maxL (lv_args 0 av) →
    (∀ (H : Heap) (locs : List Loc) (pc : Nat) (ls : Array Slot), va_P D vwCl wc' H → va_S A s.heap H locs → decode cc pc = .ok (iret, 1) → W p l e rm s m args below meth c H locs 0 0 Q (F0 m pc ls rst)) →
    W p l e rm s m args below meth c H locs 0 0 Q (F0 m 0 ls [])
theorem Cw.of {rv : Option Value} {iret : Instr} {ret : Option FieldType} (hy : plainName y.cls = true) (hw : ws = Cond.code y cc maxL ret :: ws') (hav : (lg_sl av).length ≤ maxL)
    (hret : ∀ (p : Program) (e : Env) (s : State) (m : MethodId) (args : Array Value) (below : List Frame) (meth : Method) (c : Code) (Qc : Array Value → State → Outcome → State → Prop) (free : Addr → Prop) (H : Heap) (locs : List Loc) (pc : Nat) (ls : Array Slot), p.tables.exec = Jvm.exec → c.code = cc → meth.sig.returnType = ret → meth.locks = false → (∀ t : State, t.heap = H → Qc args s (.returned rv) t) → (∀ q ∈ locs, free q.base) → decode cc pc = .ok (iret, 1) → W p l e rm s m args below meth c H locs 0 0 (MQ below Qc args s 0 0 free) (F0 m pc ls rv.toList))
    (body : CwBody l y ws rm D cI adK adV wc wc' av cc maxL iret rv.toList) : Cw l y ws rm D cI adK adV wc wc' av rv := by
  intro sz
  refine Met.ofW (cc := cc) (maxL := maxL) (ret := ret) hy hw ?_
  intro p e s m args below meth c s₁ B hml hv
  obtain ⟨rfl, hsz, hP, hK, hD0, hE⟩ := hv
  subst hsz
  have hD := hD0.self (sz := s.heap.size)
  have hl := lv_entry av (n := maxL) hav
  rw [lg_entry_eq]
  refine body p e s m av.toArray below meth c (va_A wc s.heap.size) _ s.heap [] _ B.exec B.bytes hml (findClass_of_methodNamed B.named) (atoms_spec (ws := ws) B.pre) (fun q h => Or.inr h) hK hE hP hD va_S.rf hl ?_
  intro H locs pc ls hP2 hS2 hd
  exact hret p e s m av.toArray below meth c _ _ H locs pc ls B.exec B.bytes B.returns B.notSynchronized (fun t ht => ⟨rfl, by rw [ht]; exact hP2, hS2.F ht⟩) hS2.2.2 hd
theorem Cw.ofI {v : Int32} (hy : plainName y.cls = true) (hw : ws = Cond.code y cc maxL (some .int) :: ws') (hav : (lg_sl av).length ≤ maxL) (body : CwBody l y ws rm D cI adK adV wc wc' av cc maxL .ireturn [.int v]) : Cw l y ws rm D cI adK adV wc wc' av (some (.int v)) :=
  Cw.of hy hw hav (fun p e s m args below meth c Qc free H locs pc ls hx hb hr hlk hq hf hd => W.iret hx hb hr (fun t ht _ => hq t ht) hf hd hlk) body
theorem Cw.ofN {v : Int32} {ty : FieldType} (hn : narrow ty (.int v) = .int v) (hy : plainName y.cls = true) (hw : ws = Cond.code y cc maxL (some ty) :: ws') (hav : (lg_sl av).length ≤ maxL) (body : CwBody l y ws rm D cI adK adV wc wc' av cc maxL .ireturn [.int v]) : Cw l y ws rm D cI adK adV wc wc' av (some (.int v)) :=
  Cw.of hy hw hav (fun p e s m args below meth c Qc free H locs pc ls hx hb hr hlk hq hf hd => W.zret hx hb hr hn (fun t ht _ => hq t ht) hf hd hlk) body
theorem Cw.ofV (hy : plainName y.cls = true) (hw : ws = Cond.code y cc maxL none :: ws') (hav : (lg_sl av).length ≤ maxL) (body : CwBody l y ws rm D cI adK adV wc wc' av cc maxL .return_ []) : Cw l y ws rm D cI adK adV wc wc' av none :=
  Cw.of hy hw hav (fun p e s m args below meth c Qc free H locs pc ls hx hb hr hlk hq hf hd => W.vret hx hb hr (fun t ht _ => hq t ht) hf hd hlk) body
theorem Cw.ofR {a : Nat} {nm : String} (hy : plainName y.cls = true) (hw : ws = Cond.code y cc maxL (some (.object nm)) :: ws') (hav : (lg_sl av).length ≤ maxL) (body : CwBody l y ws rm D cI adK adV wc wc' av cc maxL .areturn [.ref a]) : Cw l y ws rm D cI adK adV wc wc' av (some (.ref a)) :=
  Cw.of hy hw hav (fun p e s m args below meth c Qc free H locs pc ls hx hb hr hlk hq hf hd => W.aret hx hb hr (Or.inl ⟨_, rfl⟩) (Or.inr ⟨_, rfl⟩) (fun t ht _ => hq t ht) hf hd hlk) body
end CwOf
section CwCall
variable {p : Program} {l : Launch} {e : Env} {R : Room} {s : State} {m : MethodId} {args : Array Value} {below : List Frame} {meth : Method} {c : Code} {H : Heap} {locs : List Loc} {Q : State → Prop}
variable {y : MethodName} {bytes cc : ByteArray} {maxL nL n index : Nat} {ret : Option FieldType} {wsy : List Cond} {rm : Room} {Ts : List Cond} {own C : String} {b : Addr} {As rest st0 st1 : List Value} {D : va_G} {cI : ClassId} {adK adV : Nat → Nat} {wc wc' ws ws' : va_W} {rv : Option Value} {pc : Nat} {ls : Array Slot} {A : Nat → Prop}
theorem Cw.pre {av : List Value} {sz : Nat} : FrameBlind (va_Pc av (fun U => U.heap.size = sz ∧ va_P D vwCl wc U.heap ∧ va_K D vwCl [(cI, .int)] U ∧ va_D (fun _ => True) wc ∧ SFx adK adV (va_A wc sz) U U.heap)) := fun a U g mk q => by
  obtain ⟨q0, q1, qP, qK, qD, qE⟩ := q
  exact ⟨q0, q1, qP, va_K.moved (u := U) (U := U.calling g mk a) (Vm.Alike.refl U.vm) qK, qD, SFx.same (u := U) (U := U.calling g mk a) rfl qE⟩
theorem Cw.start (hE : SFx adK adV A s s.heap) (hL : Ln ws wc ws' wc') (hA : ∀ q : Nat, s.heap.size ≤ q → A q) (hK : va_K D vwCl [(cI, .int)] s) (hP : va_P D vwCl ws H) (hD : va_D A ws) (hS : va_S A s.heap H locs) (av : List Value) (U : State) (hU : U.heap = H) (hW : s.WarmedH U.vm) : va_Pc av (fun U => U.heap.size = H.size ∧ va_P D vwCl wc U.heap ∧ va_K D vwCl [(cI, .int)] U ∧ va_D (fun _ => True) wc ∧ SFx adK adV (va_A wc H.size) U U.heap) av.toArray U := by
  obtain ⟨h1, h2, h3, h4, h5⟩ := Ct.start hL hK hP hD av U hU hW
  obtain ⟨is, hC, -, -, -, -⟩ := hL
  refine ⟨h1, h2, h3, h4, h5, ?_⟩
  rw [hU]
  exact ((hE.kept hS.2.1).narrow (va_free hD hS hA is hC)).warm hW
theorem Cw.callVg {k n0 : Nat} (hcs : k ≤ R.cells ∧ n0 ≤ R.slots) (hM : Cw l y wsy rm D cI adK adV wc wc' (.ref b :: As) rv) (hE : SFx adK adV A s s.heap) (hx : p.tables.exec = Jvm.exec) (hb : c.code = cc) (hml : c.maxLocals = nL) (hown : s.vm.findClass own = some m.cls) (hts : ∀ w ∈ Ts, w.before args s = true) (cw : CallW R s args own C index y bytes maxL ret wsy rm 0 0 n)
    (hrc : ∃ cell : Cell, H[b]? = some cell ∧ cell.vm.isStatics = false ∧ s.vm.findClass C = some cell.cls) (hL : Ln ws wc ws' wc') (hA : ∀ q : Nat, s.heap.size ≤ q → A q) (hK : va_K D vwCl [(cI, .int)] s) (hP : va_P D vwCl ws H) (hD : va_D A ws) (hS : va_S A s.heap H locs)
    (hn : As.length = n) (hsize : ls.size = nL) (hst : st0 = As.reverse ++ .ref b :: rest) (h1 : rv.toList ++ rest = st1) (hW : (rest.map fun v => v.category).sum ≤ 8) (hdg : decode cc pc = .ok (.invokevirtual index, 3))
    (kk : ∀ (H1 : Heap) (locs1 : List Loc), va_P D vwCl ws' H1 → va_D A ws' → va_S A s.heap H1 locs1 → W p l e R s m args below meth c H1 locs1 k n0 Q (F0 m (pc + 3) ls st1)) :
    W p l e R s m args below meth c H locs k n0 Q (F0 m pc ls st0) := by
  subst h1
  exact Ct.back (av := .ref b :: As) (va_runV (g := F0 m pc ls st0) (As := As) (rest := rest) ⟨hx, hb, hml, hown, hts⟩ (hM H.size) cw ⟨Cw.pre, hrc, fun U hU hW => Cw.start hE hL hA hK hP hD hS (.ref b :: As) U hU hW⟩ rfl hn hsize hst (lv_room hW) hdg hcs) hL hA hP hD hS kk
theorem Cw.callV (hM : Cw l y wsy rm D cI adK adV wc wc' (.ref b :: As) rv) (hE : SFx adK adV A s s.heap) (hx : p.tables.exec = Jvm.exec) (hb : c.code = cc) (hml : c.maxLocals = nL) (hown : s.vm.findClass own = some m.cls) (hts : ∀ w ∈ Ts, w.before args s = true) (cw : CallW R s args own C index y bytes maxL ret wsy rm 0 0 n)
    (hrc : ∃ cell : Cell, H[b]? = some cell ∧ cell.vm.isStatics = false ∧ s.vm.findClass C = some cell.cls) (hL : Ln ws wc ws' wc') (hA : ∀ q : Nat, s.heap.size ≤ q → A q) (hK : va_K D vwCl [(cI, .int)] s) (hP : va_P D vwCl ws H) (hD : va_D A ws) (hS : va_S A s.heap H locs)
    (hn : As.length = n) (hsize : ls.size = nL) (hst : st0 = As.reverse ++ .ref b :: rest) (h1 : rv.toList ++ rest = st1) (hW : (rest.map fun v => v.category).sum ≤ 8) (hdg : decode cc pc = .ok (.invokevirtual index, 3))
    (kk : ∀ (H1 : Heap) (locs1 : List Loc), va_P D vwCl ws' H1 → va_D A ws' → va_S A s.heap H1 locs1 → W p l e R s m args below meth c H1 locs1 0 0 Q (F0 m (pc + 3) ls st1)) :
    W p l e R s m args below meth c H locs 0 0 Q (F0 m pc ls st0) := by
  subst h1
  exact Ct.back (av := .ref b :: As) (va_runV (g := F0 m pc ls st0) (As := As) (rest := rest) ⟨hx, hb, hml, hown, hts⟩ (hM H.size) cw ⟨Cw.pre, hrc, fun U hU hW => Cw.start hE hL hA hK hP hD hS (.ref b :: As) U hU hW⟩ rfl hn hsize hst (lv_room hW) hdg ⟨Nat.zero_le _, Nat.zero_le _⟩) hL hA hP hD hS kk
theorem Cw.callS (hM : Cw l y wsy rm D cI adK adV wc wc' As rv) (hE : SFx adK adV A s s.heap) (hx : p.tables.exec = Jvm.exec) (hb : c.code = cc) (hml : c.maxLocals = nL) (hown : s.vm.findClass own = some m.cls) (hts : ∀ w ∈ Ts, w.before args s = true) (cw : CallB R s args own index y bytes maxL ret wsy rm 0 0 n ∧ (Cond.static y).before args s = true)
    (hL : Ln ws wc ws' wc') (hA : ∀ q : Nat, s.heap.size ≤ q → A q) (hK : va_K D vwCl [(cI, .int)] s) (hP : va_P D vwCl ws H) (hD : va_D A ws) (hS : va_S A s.heap H locs)
    (hn : As.length = n) (hsize : ls.size = nL) (hst : st0 = As.reverse ++ rest) (h1 : rv.toList ++ rest = st1) (hW : (rest.map fun v => v.category).sum ≤ 8) (hdg : decode cc pc = .ok (.invokestatic index, 3))
    (kk : ∀ (H1 : Heap) (locs1 : List Loc), va_P D vwCl ws' H1 → va_D A ws' → va_S A s.heap H1 locs1 → W p l e R s m args below meth c H1 locs1 0 0 Q (F0 m (pc + 3) ls st1)) :
    W p l e R s m args below meth c H locs 0 0 Q (F0 m pc ls st0) := by
  subst h1
  exact Ct.back (av := As) (va_runS (g := F0 m pc ls st0) (As := As) (rest := rest) ⟨hx, hb, hml, hown, hts⟩ (hM H.size) cw ⟨Cw.pre, fun U hU hW => Cw.start hE hL hA hK hP hD hS As U hU hW⟩ rfl hn hsize hst (lv_room hW) hdg ⟨Nat.zero_le _, Nat.zero_le _⟩) hL hA hP hD hS kk
end CwCall
def f_J0_coder_7d493 (i0 : Nat) : Option (Int32) := (gd (i0 < 5) (fn .byte (some (0 : Int32))))
theorem f_J0_coder_7d493_lt {i0 : Nat} {r : Int32} (h : f_J0_coder_7d493 i0  = some r) : i0 < 5 := (gd_e h).1
def f_J0_isLatin1_aae02 (i0 : Nat) : Option (Int32) := (gd (i0 < 5) (fz (some (1 : Int32))))
theorem f_J0_isLatin1_aae02_lt {i0 : Nat} {r : Int32} (h : f_J0_isLatin1_aae02 i0  = some r) : i0 < 5 := (gd_e h).1
def f_J0_length_8abf5 (i0 : Nat) : Option (Int32) := (gd (i0 < 5) ((bd (f_J0_coder_7d493 i0) fun a_1 => (some ((nI (lenS.getD i0 0)) >>> (a_1 &&& 31))))))
theorem f_J0_length_8abf5_lt {i0 : Nat} {r : Int32} (h : f_J0_length_8abf5 i0  = some r) : i0 < 5 := (gd_e h).1
def f_J0_isEmpty_aae02 (i0 : Nat) : Option (Int32) := (gd (i0 < 5) (fz (if (nI (lenS.getD i0 0)) = 0 then (some (1 : Int32)) else (some (0 : Int32)))))
theorem f_J0_isEmpty_aae02_lt {i0 : Nat} {r : Int32} (h : f_J0_isEmpty_aae02 i0  = some r) : i0 < 5 := (gd_e h).1
def f_J3_checkIndex_8e157 (p1 : Int32) (p2 : Int32) : Option (Int32) := (if p1 < 0 then none else (if p1 < p2 then (some p1) else none))
def f_J0_checkIndex_df160 (p1 : Int32) (p2 : Int32) : Option (Unit) := (bd (f_J3_checkIndex_8e157 p1 p2) fun a_1 => (some ()))
def f_J1_charAt_3b067 (i0 : Nat) (p2 : Int32) : Option (Int32) := (gd (i0 < 5) (fn .char (bd (f_J0_checkIndex_df160 p2 (nI (lenS.getD i0 0))) fun a_1 => (gi p2 (lenS.getD i0 0) (some (((((bytS.getD i0 []).getD (p2).toNatClampNeg 0) &&& (255 : Int32))).toUInt32 % 65536).toInt32)))))
theorem f_J1_charAt_3b067_lt {i0 : Nat} {p2 : Int32} {r : Int32} (h : f_J1_charAt_3b067 i0 p2 = some r) : i0 < 5 := (gd_e h).1
def f_J0_charAt_5068e (i0 : Nat) (p1 : Int32) : Option (Int32) := (gd (i0 < 5) (fn .char (bd (f_J0_isLatin1_aae02 i0) fun a_1 => (gd (a_1 = 1) (bd (f_J1_charAt_3b067 i0 p1) fun a_2 => (some a_2))))))
theorem f_J0_charAt_5068e_lt {i0 : Nat} {p1 : Int32} {r : Int32} (h : f_J0_charAt_5068e i0 p1 = some r) : i0 < 5 := (gd_e h).1
def f_J1_canEncode_9a6ad (p1 : Int32) : Option (Int32) := fz (if p1 < 0 then (some (0 : Int32)) else (if (255 : Int32) < p1 then (some (0 : Int32)) else (some (1 : Int32))))
def f_J1_indexOfChar_4cfef (i0 : Nat) (p2 : Int32) (p3 : Int32) (p4 : Int32) : Option (Int32) := (gd (i0 < 5) ((nm (p2).toInt8.toInt32 fun v_1 => (lp (fun (nx7 : Int32 → Option (Int32)) (q7 : Int32) => (if p4 ≤ q7 then (some (-1 : Int32)) else (gi q7 (lenS.getD i0 0) (if ((bytS.getD i0 []).getD (q7).toNatClampNeg 0) = v_1 then (some q7) else (nm (q7 + (1 : Int32)) fun v_5 => (nx7 v_5)))))) 1000 p3))))
theorem f_J1_indexOfChar_4cfef_lt {i0 : Nat} {p2 : Int32} {p3 : Int32} {p4 : Int32} {r : Int32} (h : f_J1_indexOfChar_4cfef i0 p2 p3 p4 = some r) : i0 < 5 := (gd_e h).1
def f_J1_indexOf_4cfef (i0 : Nat) (p2 : Int32) (p3 : Int32) (p4 : Int32) : Option (Int32) := (gd (i0 < 5) ((bd (f_J1_canEncode_9a6ad p2) fun a_1 => (if a_1 = 0 then (some (-1 : Int32)) else (nm (if p3 < (0 : Int32) then (0 : Int32) else p3) fun v_3 => (nm (if (nI (lenS.getD i0 0)) < p4 then (nI (lenS.getD i0 0)) else p4) fun v_4 => (if v_3 < v_4 then (bd (f_J1_indexOfChar_4cfef i0 p2 v_3 v_4) fun a_6 => (some a_6)) else (some (-1 : Int32)))))))))
theorem f_J1_indexOf_4cfef_lt {i0 : Nat} {p2 : Int32} {p3 : Int32} {p4 : Int32} {r : Int32} (h : f_J1_indexOf_4cfef i0 p2 p3 p4 = some r) : i0 < 5 := (gd_e h).1
def f_J0_indexOf_7cf53 (i0 : Nat) (p1 : Int32) (p2 : Int32) : Option (Int32) := (gd (i0 < 5) ((bd (f_J0_isLatin1_aae02 i0) fun a_1 => (gd (a_1 = 1) (bd (f_J0_length_8abf5 i0) fun a_2 => (bd (f_J1_indexOf_4cfef i0 p1 p2 a_2) fun a_3 => (some a_3)))))))
theorem f_J0_indexOf_7cf53_lt {i0 : Nat} {p1 : Int32} {p2 : Int32} {r : Int32} (h : f_J0_indexOf_7cf53 i0 p1 p2 = some r) : i0 < 5 := (gd_e h).1
def f_J0_indexOf_0f7a4 (i0 : Nat) (p1 : Int32) : Option (Int32) := (gd (i0 < 5) ((bd (f_J0_indexOf_7cf53 i0 p1 (0 : Int32)) fun a_1 => (some a_1))))
theorem f_J0_indexOf_0f7a4_lt {i0 : Nat} {p1 : Int32} {r : Int32} (h : f_J0_indexOf_0f7a4 i0 p1 = some r) : i0 < 5 := (gd_e h).1
def f_X1_kindOf (p1 : Int32) : Option (Int32) := (bd (f_J0_indexOf_0f7a4 1 ((p1).toUInt32 % 65536).toInt32) fun a_1 => (some a_1))
def f_X1_partsBehind (p1 : Int32) : Option (Nat) := (if p1 = 98 then (some 4) else (if p1 = 109 then (some 3) else (if p1 = 115 then (some 2) else (if p1 = 116 then (some 2) else (if p1 = 118 then (some 4) else (if p1 = 119 then (some 4) else (some 0)))))))
def f_X1_fits (p1 : Int32) (p2 : Int32) : Option (Int32) := fz (if p2 = 57 then (if p1 < (48 : Int32) then (some (0 : Int32)) else (if (57 : Int32) < p1 then (some (0 : Int32)) else (some (1 : Int32)))) else (if p2 = 107 then (bd (f_X1_kindOf p1) fun a_5 => (if a_5 < 0 then (some (0 : Int32)) else (some (1 : Int32)))) else (if p1 = p2 then (some (1 : Int32)) else (some (0 : Int32)))))
def f_X1_firstThatCanNotGoOn (g : St) : Option (Int32) := (lp (fun (nx7 : (Nat × Int32 × Int32) → Option (Int32)) (q7 : Nat × Int32 × Int32) => (if (g 1 0) ≤ q7.2.2 then (if (g 1 0) = 0 then (some (g 1 0)) else (bd (f_J0_length_8abf5 q7.1) fun a_3 => (if a_3 ≤ q7.2.1 then (some (-9 : Int32)) else (some (g 1 0))))) else (bd (f_J0_length_8abf5 q7.1) fun a_5 => (if a_5 ≤ q7.2.1 then (gi q7.2.2 96 (bd (f_X1_partsBehind (g 0 (q7.2.2).toNatClampNeg)) fun a_8 => (bd (f_J0_isEmpty_aae02 a_8) fun a_9 => (if a_9 = 0 then (nm (q7.2.2 + (1 : Int32)) fun v_11 => (nx7 (a_8, (0 : Int32), v_11))) else (some q7.2.2))))) else (gi q7.2.2 96 (bd (f_J0_charAt_5068e q7.1 q7.2.1) fun a_13 => (bd (f_X1_fits (g 0 (q7.2.2).toNatClampNeg) a_13) fun a_14 => (if a_14 = 0 then (some q7.2.2) else (nm (q7.2.1 + (1 : Int32)) fun v_16 => (nm (q7.2.2 + (1 : Int32)) fun v_17 => (nx7 (q7.1, v_16, v_17)))))))))))) 1000 (0, (0 : Int32), (0 : Int32)))
def f_X1_happens (g : St) (h : St) (p1 : Int32) : Option (Int32 × St) := fzp (bd (f_X1_digit g (p1 + (1 : Int32))) fun a_1 => (bd (f_X1_digit g (p1 + (2 : Int32))) fun a_2 => (bd (f_X1_signAt g p1) fun a_3 => (if a_3 = 98 then (bd (f_X1_boardingHappens h a_1 a_2) fun a_5 => (some (a_5.1, a_5.2))) else (if a_3 = 109 then (bd (f_X1_signAt g (p1 + (1 : Int32))) fun a_7 => (bd (f_X1_kindOf a_7) fun a_8 => (bd (f_X1_digit g (p1 + (3 : Int32))) fun a_9 => (bd (f_X1_digit g (p1 + (4 : Int32))) fun a_10 => (bd (f_X0_addMan h a_8 a_2 a_9 a_10) fun a_11 => (some (a_11.1, a_11.2))))))) else (if a_3 = 115 then (bd (f_X0_addShip h a_1) fun a_13 => (some (a_13.1, a_13.2))) else (if a_3 = 116 then (bd (f_X0_canTell h a_1) fun a_15 => (if a_15 = 0 then (some ((0 : Int32), h)) else (bd (f_X0_word h a_1) fun a_17 => (if a_17.1 < 0 then (some ((0 : Int32), a_17.2)) else (some ((1 : Int32), a_17.2)))))) else (if a_3 = 118 then (bd (f_X1_sinsHappen h a_1 a_2) fun a_20 => (some (a_20.1, a_20.2))) else (if a_3 = 119 then (bd (f_X1_tidesHappen h (((10 : Int32) * a_1) + a_2)) fun a_22 => (some (a_22.1, a_22.2))) else (some ((0 : Int32), h)))))))))))
def f_X1_play (g : St) (h : St) : Option (Int32 × St) := (bd (f_X1_firstThatCanNotGoOn g) fun a_1 => (if a_1 = (-9 : Int32) then (lp (fun (nx25 : (Int32 × Int32 × Int32 × St) → Option (Int32 × St)) (q25 : Int32 × Int32 × Int32 × St) => (if (96 : Int32) ≤ q25.2.2.1 then (some (q25.1, q25.2.2.2)) else (if (g 1 0) ≤ q25.2.1 then (some (q25.1, q25.2.2.2)) else (bd (f_X1_happens g q25.2.2.2 q25.2.1) fun a_5 => (if a_5.1 = 0 then (some (((-2000 : Int32) - q25.2.1), a_5.2)) else (gi q25.2.1 96 (bd (f_X1_partsBehind (g 0 (q25.2.1).toNatClampNeg)) fun a_8 => (bd (f_J0_length_8abf5 a_8) fun a_9 => (nm (q25.2.1 + ((1 : Int32) + a_9)) fun v_10 => (nm (q25.1 + (1 : Int32)) fun v_11 => (nm (q25.2.2.1 + (1 : Int32)) fun v_12 => (nx25 (v_11, v_10, v_12, a_5.2))))))))))))) 1000 ((0 : Int32), (0 : Int32), (0 : Int32), h)) else (some (((-1000 : Int32) - a_1), h))))
def f_X4_harbour (n : St) (t : St) (k : St) (g : St) (w : St) (z : St) (q : St) : Option (Int32 × St × St × St) := (bd (f_X0_copyFrom t n) fun a_1 => (bd (f_X1_play g a_1) fun a_2 => (bd (f_X1_drop g) fun a_3 => (if a_2.1 ≤ 0 then (some (a_2.1, n, a_2.2, a_3)) else (bd (f_X0_copyFrom n a_2.2) fun a_5 => (some (a_2.1, a_5, a_2.2, a_3)))))))
