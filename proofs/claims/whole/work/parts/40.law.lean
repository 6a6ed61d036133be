/-! THE CLAIM OUT OF ONE WALK OF THE LAW'S BODY. Your part is whole_start (and what it stands on); all else here is the same for every law, but numbers. -/
def R_law : String := "AnchorsForConfessionLaw"
def lw_P (b : Addr) (xs : List Int32) (args : Array Value) (s : State) : Prop := args = #[.ref b] ∧ s.IntsAt b xs ∧ xs.length ≤ 2560 ∧ (Jvm.Cond.and given_1 narrow_1).before args s = true
def lw_Q (_ : Array Value) (s : State) (o : Outcome) (t : State) : Prop := o = .returned (some (.int 1)) ∧ Framed s o t [] 51 983
def lw_Z (below : List Frame) (a : Array Value) (s : State) : State → Prop := fun t => ∃ o, t.status = .running ∧ Ended t below o ∧ lw_Q a s o t
/-- the law's own end, with 1 on the stack, nothing written that was there before, its room as the claim has it -/
theorem lw_ret {p : Program} {l : Launch} {e : Env} {s : State} {m : MethodId} {below : List Frame} {meth : Method} {c : Code} {b : Nat} (hx : p.tables.exec = Jvm.exec) (hb : c.code = code) (hr : meth.sig.returnType = ret) (hlocks : meth.locks = false) {pc : Nat} {H : Heap} {ls : Array Slot} (hdg : decode code pc = .ok (.ireturn, 1)) : W p l e room_1 s m #[Value.ref b] below meth c H [] 51 983 (lw_Z below #[Value.ref b] s) (F0 m pc ls [.int 1]) := by
  intro T hT X
  obtain ⟨fs, hret, hrun, hended, hW, hframe⟩ := X.leave (v := some (.int 1)) (hlocks := hlocks) (fun h => by rw [hr] at h; cases h)
  have hmeth' : T.vm.method? m = some meth := X.method'
  refine ⟨T.setFrames fs, ?_, .returned (some (.int 1)), hrun, hended, rfl, ⟨_, rfl⟩, hW, hframe⟩
  jvm_step X.here [X.here.top, hx, hb, hdg, hmeth', hr, ret, narrow_b1]
  (try refine ⟨rfl, ?_⟩); (try refine ⟨rfl, ?_⟩)
  first | (intro acts; rw [hret _ acts rfl rfl rfl]) | rw [hret _ _ rfl rfl rfl]
  exact Steps.refl _
/-- what holds at the law's entry: the machine, the code, the tables' words (any of lw_tbl by 'hts w (by decide +kernel)'), the script of L ints xs at the cell b, what the Statement gives of the start (any of its parts by flat_of_before) -/
def lw_At (p : Program) (s : State) (m : MethodId) (meth : Method) (c : Code) (b L : Nat) (xs : Nat → Int32) : Prop :=
  p.tables.exec = Jvm.exec ∧ c.code = code ∧ meth.sig.returnType = ret ∧ c.maxLocals = 4 ∧ s.vm.findClass R_law = some m.cls ∧ (∀ w ∈ lw_tbl, w.before #[Value.ref b] s = true) ∧ va_X b L xs s s.heap ∧ b < s.heap.size ∧ meth.locks = false ∧ (Jvm.Cond.and given_1 narrow_1).before #[Value.ref b] s = true

/-- the five texts at the start -/
def txT (i : Nat) : Term := match i with
  | 0 => .string RX1 36
  | 1 => .string RX1 60
  | 2 => .string RX1 50
  | 3 => .string RX1 52
  | _ => .string RX1 54
theorem lt5c {i : Nat} (h : i < 5) : i = 0 ∨ i = 1 ∨ i = 2 ∨ i = 3 ∨ i = 4 := by omega
set_option maxHeartbeats 4000000 in
set_option maxRecDepth 100000 in
theorem law_texts {s : State} {b : Nat} (hts : ∀ w ∈ lw_tbl, w.before #[Value.ref b] s = true) (hgv : (Jvm.Cond.and given_1 narrow_1).before #[Value.ref b] s = true) : ∃ adK adV : Nat → Nat, SFx adK adV (fun q : Nat => s.heap.size ≤ q) s s.heap := by
  have hf := flat_of_before _ hgv
  have hA : ∀ a : Nat, a < s.heap.size → ¬ (fun q : Nat => s.heap.size ≤ q) a := fun a h => Nat.not_le.mpr h
  obtain ⟨adK, adV, hS, hR⟩ := vk_Sof (args := #[Value.ref b]) (s := s) (N := 5) (tm := txT) (len := lenS) (byt := bytS) (A := fun q : Nat => s.heap.size ≤ q)
    (fun i hi => by rcases lt5c hi with rfl | rfl | rfl | rfl | rfl <;> decide +kernel)
    (fun i hi => by rcases lt5c hi with rfl | rfl | rfl | rfl | rfl <;> exact hf _ (by decide +kernel))
    (fun i hi => by rcases lt5c hi with rfl | rfl | rfl | rfl | rfl <;> exact hf _ (by decide +kernel))
    (fun i hi => by rcases lt5c hi with rfl | rfl | rfl | rfl | rfl <;> exact hf _ (by decide +kernel))
    (fun i hi => by rcases lt5c hi with rfl | rfl | rfl | rfl | rfl <;> exact hf _ (by decide +kernel))
    (fun i hi j hj => by
      rcases lt5c hi with rfl | rfl | rfl | rfl | rfl
      · exact absurd hj (Nat.not_lt_zero _)
      · have hj' : j < 6 := hj
        rcases (show j = 0 ∨ j = 1 ∨ j = 2 ∨ j = 3 ∨ j = 4 ∨ j = 5 by omega) with rfl | rfl | rfl | rfl | rfl | rfl <;> exact hf _ (by decide +kernel)
      · have hj' : j < 2 := hj
        rcases (show j = 0 ∨ j = 1 by omega) with rfl | rfl <;> exact hf _ (by decide +kernel)
      · have hj' : j < 5 := hj
        rcases lt5c hj' with rfl | rfl | rfl | rfl | rfl <;> exact hf _ (by decide +kernel)
      · have hj' : j < 3 := hj
        rcases (show j = 0 ∨ j = 1 ∨ j = 2 by omega) with rfl | rfl | rfl <;> exact hf _ (by decide +kernel))
    (fun i j hi hj hij => by
      rcases lt5c hi with rfl | rfl | rfl | rfl | rfl <;> rcases lt5c hj with rfl | rfl | rfl | rfl | rfl <;> first | exact absurd rfl hij | exact Or.inl (hf _ (by decide +kernel)) | exact Or.inr (hf _ (by decide +kernel)))
    hA
  refine ⟨adK, adV, hS, ?_, ?_, ?_, ?_, ?_, ?_, ?_⟩
  · exact va_Zof (args := #[Value.ref b]) (hts (.laysStatic "java/lang/String" "COMPACT_STRINGS" "Z") (by decide +kernel)) (hts (.initialized "java/lang/String") (by decide +kernel)) (va_eqt (hf (.eq (.static "java/lang/String" "COMPACT_STRINGS" "Z") (.int 1)) (by decide +kernel))) hA
  · exact va_Zqof (args := #[Value.ref b]) (hts (.laysStatic "jdk/internal/util/Preconditions" "SIOOBE_FORMATTER" "Ljava/util/function/BiFunction;") (by decide +kernel)) (hts (.initialized "jdk/internal/util/Preconditions") (by decide +kernel)) (hf (.isRef (.static "jdk/internal/util/Preconditions" "SIOOBE_FORMATTER" "Ljava/util/function/BiFunction;")) (by decide +kernel)) hA
  · exact vk_R.of (hts (.stringRef RX1 36 "") (by decide +kernel)) (hR 0 (by decide))
  · exact vk_R.of (hts (.stringRef RX1 60 "hpmsab") (by decide +kernel)) (hR 1 (by decide))
  · exact vk_R.of (hts (.stringRef RX1 50 "9;") (by decide +kernel)) (hR 2 (by decide))
  · exact vk_R.of (hts (.stringRef RX1 52 "k999;") (by decide +kernel)) (hR 3 (by decide))
  · exact vk_R.of (hts (.stringRef RX1 54 "99;") (by decide +kernel)) (hR 4 (by decide))

set_option maxHeartbeats 40000000 in
set_option maxRecDepth 100000 in
theorem whole_start {p : Program} {e : Env} {s : State} {m : MethodId} {below : List Frame} {meth : Method} {c : Code} (l : Launch) (hflags : l.flags = flags0) {b L : Nat} {xs : Nat → Int32} (hL : L ≤ 2560) (C0 : lw_At p s m meth c b L xs) : W p l e room_1 s m #[Value.ref b] below meth c s.heap [] 0 0 (lw_Z below #[Value.ref b] s) (entryFrame m ([Value.ref b] : List Value).toArray 4) := by
  obtain ⟨hx, hb, hr, hml, hown, hts0, hX, hbl, hlocks, hgv⟩ := id C0
  have hts : ∀ w ∈ wsL_law, w.before #[Value.ref b] s = true := fun w h => hts0 w (wsL_law_in w h)
  have hA : ∀ q : Nat, s.heap.size ≤ q → (fun q : Nat => s.heap.size ≤ q) q := fun _ h => h
  have hbA : ¬ (fun q : Nat => s.heap.size ≤ q) b := Nat.not_le.mpr hbl
  obtain ⟨c0, iS0, hKn0⟩ := u_known (C := RX0) (T := TX0) (N := 12) (n := 12) hts0 inX0 (hts (.instantiable RX0 12) (by decide +kernel))
  obtain ⟨c1, iS1, hKn1⟩ := u_known (C := RX1) (T := TX1) (N := 2) (n := 2) hts0 inX1 (hts (.instantiable RX1 2) (by decide +kernel))
  obtain ⟨c2, iS2, hKn2⟩ := u_known (C := RX2) (T := TX2) (N := 1) (n := 1) hts0 inX2 (hts (.instantiable RX2 1) (by decide +kernel))
  obtain ⟨c3, iS3, hKn3⟩ := u_known (C := RX3) (T := TX3) (N := 2) (n := 2) hts0 inX3 (hts (.instantiable RX3 2) (by decide +kernel))
  obtain ⟨c4, iS4, hKn4⟩ := u_known (C := RX4) (T := TX4) (N := 8) (n := 8) hts0 inX4 (hts (.instantiable RX4 8) (by decide +kernel))
  obtain ⟨c5, iS5, hKn5⟩ := u_known (C := RX5) (T := TX5) (N := 27) (n := 27) hts0 inX5 (hts (.instantiable RX5 27) (by decide +kernel))
  obtain ⟨D, hKc⟩ : ∃ D : va_G, ∀ (k : Nat) (q : vw_C), vwCl[k]? = some q → u_Kn s q.1 q.2.1 q.2.2 (D.1 k) (D.2 k) := by
    refine ⟨(fun k => if k = 0 then c0 else if k = 1 then c1 else if k = 2 then c2 else if k = 3 then c3 else if k = 4 then c4 else c5, fun k => if k = 0 then iS0 else if k = 1 then iS1 else if k = 2 then iS2 else if k = 3 then iS3 else if k = 4 then iS4 else iS5), ?_⟩
    intro k q hq
    match k, hq with
    | 0, hq => cases hq; exact hKn0
    | 1, hq => cases hq; exact hKn1
    | 2, hq => cases hq; exact hKn2
    | 3, hq => cases hq; exact hKn3
    | 4, hq => cases hq; exact hKn4
    | 5, hq => cases hq; exact hKn5
    | k + 6, hq => simp [vwCl] at hq
  obtain ⟨cI, kI, comp, hI1, hI2, hI3⟩ := Cond.arrayClass_spec (hts (.arrayClass .int) (by decide +kernel))
  have hK : va_K D vwCl [(cI, .int)] s := by
    refine ⟨hKc, fun k q hq => ?_⟩
    have hz : k < 1 := (List.getElem?_eq_some_iff.mp hq).1
    rw [show k = 0 by omega] at hq
    cases hq
    exact ⟨fun n z => ⟨fun k h => (by cases h), kI, hI2, comp, hI3⟩, hI1⟩
  have hNW : NWx s := ⟨va_Nw.of rfl (hts0 (.methodLinkNest RX4 9 yX0_init RX4) (by decide +kernel)), va_Nw.of rfl (hts0 (.methodLinkNest RX4 24 yX1_init RX4) (by decide +kernel)), va_Nw.of rfl (hts0 (.methodLinkNest RX4 31 yX3_init RX4) (by decide +kernel)), va_Nw.of rfl (hts0 (.methodLinkNest RX4 38 yX2_init RX4) (by decide +kernel))⟩
  obtain ⟨adK, adV, hE⟩ := law_texts hts0 hgv
  have hS : va_S (fun q : Nat => s.heap.size ≤ q) s.heap s.heap [] := va_S.rf
  have hP : va_P D vwCl [] s.heap := fun k q h => by simp at h
  have hD : va_D (fun q : Nat => s.heap.size ≤ q) [] := ⟨fun i j p q h => by simp at h, fun k q h => by simp at h⟩
  have hl := lv_entry ([.ref b]) (n := 4) (Nat.le_of_ble_eq_true rfl)
  rw [lg_entry_eq]
  generalize (lg_sl ([.ref b]) ++ List.replicate (4 - (lg_sl ([.ref b])).length) Slot.unset).toArray = ls at hl ⊢
  have hl : lv_has ls 4 [(0, .ref b)] := hl
  refine va_new (ci := 4) (fs := [.null, .null, .null, .null, .null, .null, .null, .int 0]) (C := RX4) (T := TX4) (N := 8) hx hb hts (by decide +kernel) tyX4 tyX4_ok hown (hts (.classLink RL 7 RX4) (by decide +kernel)) (hts (.instantiable RX4 8) (by decide +kernel)) (hts (.initialized RX4) (by decide +kernel)) hK hP hD hS hA rfl (fun j hj => by rcases (show j = 0 ∨ j = 1 ∨ j = 2 ∨ j = 3 ∨ j = 4 ∨ j = 5 ∨ j = 6 ∨ j = 7 by omega) with rfl | rfl | rfl | rfl | rfl | rfl | rfl | rfl <;> rfl) (Nat.le_of_ble_eq_true rfl) (Nat.le_of_ble_eq_true rfl) dL_law_0 (fun q0 H hP hD hS => ?_)
  refine lv_dup hx hb dL_law_3 rfl ?_
  refine Cx.call (wr := []) (rest := [.ref q0]) hNW (c_X4_init l D cI q0) hx hb hml hown hts (cwI 0 hts gL_law_X4_init rfl rfl rfl (hts (.initialized RX4) (by decide +kernel)) (hts (.methodLink RL 9 yX4_init) (by decide +kernel)) (hts (.instanceMethod yX4_init) (by decide +kernel)) rfl (by decide +kernel) ⟨Nat.le_of_ble_eq_true rfl, Nat.le_of_ble_eq_true rfl⟩) hA hK hP hD hS [] 0 rfl rfl (by decide) (by decide) hl.1 (Nat.le_of_ble_eq_true rfl) dL_law_4 ⟨Nat.le_of_ble_eq_true rfl, Nat.le_of_ble_eq_true rfl⟩ (fun A H locs hA0 hP hD hS => ?_)
  rw [← hA0]
  replace hP : va_P D vwCl (cX cI A z0 z0 z0 z0 z0 z0 z0) H := hP
  replace hD : va_D (fun q : Nat => s.heap.size ≤ q) (cX cI A z0 z0 z0 z0 z0 z0 z0) := hD
  refine lv_astore_n (lv' := [(1, .ref (A 0)), (0, .ref b)]) hx hb dL_law_7 rfl hl (by decide) rfl (fun ls hl => ?_)
  refine va_new (ci := 5) (fs := [.null, .null, .null, .null, .null, .null, .null, .null, .int 0, .int 0, .int 0, .int 0, .null, .null, .null, .null, .int 0, .int 0, .int 0, .null, .int 0, .int 0, .int 0, .null, .null, .null, .int 0]) (C := RX5) (T := TX5) (N := 27) hx hb hts (by decide +kernel) tyX5 tyX5_ok hown (hts (.classLink RL 10 RX5) (by decide +kernel)) (hts (.instantiable RX5 27) (by decide +kernel)) (hts (.initialized RX5) (by decide +kernel)) hK hP hD hS hA rfl (fun j hj => by rcases (show j = 0 ∨ j = 1 ∨ j = 2 ∨ j = 3 ∨ j = 4 ∨ j = 5 ∨ j = 6 ∨ j = 7 ∨ j = 8 ∨ j = 9 ∨ j = 10 ∨ j = 11 ∨ j = 12 ∨ j = 13 ∨ j = 14 ∨ j = 15 ∨ j = 16 ∨ j = 17 ∨ j = 18 ∨ j = 19 ∨ j = 20 ∨ j = 21 ∨ j = 22 ∨ j = 23 ∨ j = 24 ∨ j = 25 ∨ j = 26 by omega) with rfl | rfl | rfl | rfl | rfl | rfl | rfl | rfl | rfl | rfl | rfl | rfl | rfl | rfl | rfl | rfl | rfl | rfl | rfl | rfl | rfl | rfl | rfl | rfl | rfl | rfl | rfl <;> rfl) (Nat.le_of_ble_eq_true rfl) (Nat.le_of_ble_eq_true rfl) dL_law_8 (fun q1 H hP hD hS => ?_)
  refine lv_dup hx hb dL_law_11 rfl ?_
  refine Cc.call (wr := cX cI A z0 z0 z0 z0 z0 z0 z0) (rest := [.ref q1]) (c_X5_init l D cI q1) hx hb hml hown hts (cwI 0 hts gL_law_X5_init rfl rfl rfl (hts (.initialized RX5) (by decide +kernel)) (hts (.methodLink RL 12 yX5_init) (by decide +kernel)) (hts (.instanceMethod yX5_init) (by decide +kernel)) rfl (by decide +kernel) ⟨Nat.le_of_ble_eq_true rfl, Nat.le_of_ble_eq_true rfl⟩) hA hK hP hD hS [0, 1, 2, 3, 4, 5, 6, 7, 8, 9, 10, 11, 12, 13, 14, 15, 16, 17, 18, 19, 20, 21, 22, 23, 24, 25, 26, 27, 28, 29, 30, 31, 32, 33] 34 rfl rfl (by decide) (by decide) hl.1 (Nat.le_of_ble_eq_true rfl) dL_law_12 ⟨Nat.le_of_ble_eq_true rfl, Nat.le_of_ble_eq_true rfl⟩ (fun B H locs hB0 hP hD hS => ?_)
  rw [← hB0]
  replace hP : va_P D vwCl (cL cI A B z0 z0 z0 z0 z0 z0 z0 z0) H := hP
  replace hD : va_D (fun q : Nat => s.heap.size ≤ q) (cL cI A B z0 z0 z0 z0 z0 z0 z0 z0) := hD
  refine lv_astore_n (lv' := [(2, .ref (B 0)), (1, .ref (A 0)), (0, .ref b)]) hx hb dL_law_15 rfl hl (by decide) rfl (fun ls hl => ?_)
  refine lv_iconst (v := 0) hx hb dL_law_16 (by decide) ?_
  refine lv_istore_n (lv' := [(3, .int (0 : Int32)), (2, .ref (B 0)), (1, .ref (A 0)), (0, .ref b)]) hx hb dL_law_17 rfl hl (by decide) rfl (fun ls hl => ?_)
  have hf := law_true (xs := xs) hL
  unfold f_law at hf
  refine lp_ind (P := fun (q18 : Int32 × St × St × St × St × St × St × St × St) => ∀ (H : Heap) (locs : List Loc) (ls : Array Slot), va_P D vwCl (cL cI A B q18.2.1 q18.2.2.1 q18.2.2.2.1 q18.2.2.2.2.1 q18.2.2.2.2.2.1 q18.2.2.2.2.2.2.1 q18.2.2.2.2.2.2.2.1 q18.2.2.2.2.2.2.2.2) H → va_D (fun q : Nat => s.heap.size ≤ q) (cL cI A B q18.2.1 q18.2.2.1 q18.2.2.2.1 q18.2.2.2.2.1 q18.2.2.2.2.2.1 q18.2.2.2.2.2.2.1 q18.2.2.2.2.2.2.2.1 q18.2.2.2.2.2.2.2.2) → va_S (fun q : Nat => s.heap.size ≤ q) s.heap H locs → lv_has ls 4 [(0, .ref b), (1, .ref (A 0)), (2, .ref (B 0)), (3, .int q18.1)] → W p l e room_1 s m #[Value.ref b] below meth c H locs 51 983 (lw_Z below #[Value.ref b] s) (F0 m 18 ls [])) hf ?_ H locs ls hP hD hS (lv_sub hl [3, 2, 1, 0] rfl)
  clear hf hP hD hS hl
  intro nx18 ih18 q18 hf H locs ls hP hD hS hl
  refine lv_iload_n hx hb dL_law_18 rfl (lv_at hl 3 rfl) ?_
  refine lv_aload_n hx hb dL_law_19 rfl (lv_at hl 0 rfl) ?_
  refine va_slen hx hb hX hbl hbA hS dL_law_20 ?_
  refine lv_iconst (v := 5) hx hb dL_law_21 (by decide) ?_
  refine lv_isub hx hb dL_law_22 ?_
  refine lv_icmp_gt (tgt := 1169) hx hb dL_law_23 (by decide) (fun c_1 => ?_) (fun c_1 => ?_)
  · replace hf := if_t c_1 hf
    refine lv_iconst (v := 1) hx hb dL_law_1169 (by decide) ?_
    exact va_forget hS.2.2 (lw_ret hx hb hr hlocks dL_law_1170)
  · replace hf := if_f c_1 hf
    refine lv_aload_n hx hb dL_law_26 rfl (lv_at hl 0 rfl) ?_
    refine lv_iload_n hx hb dL_law_27 rfl (lv_at hl 3 rfl) ?_
    obtain ⟨c_2, hf⟩ := gi_e hf
    refine va_sld hx hb hX hbl hbA hS c_2 dL_law_28 ?_
    refine lv_bipush (v := 63) hx hb dL_law_29 (by decide +kernel) ?_
    refine lv_iand hx hb dL_law_31 ?_
    by_cases c_3 : ((xs (q18.1).toNatClampNeg) &&& (63 : Int32)) = 0
    · replace hf := if_t c_3 hf
      refine lv_tableIn (off := 172) (tgt := 204) hx hb dL_law_32 (by rw [c_3]; decide +kernel) (by rw [c_3]; decide +kernel) (by rw [c_3]; decide +kernel) (by decide) ?_
      refine lv_aload_n hx hb dL_law_204 rfl (lv_at hl 1 rfl) ?_
      refine lv_aload_n hx hb dL_law_205 rfl (lv_at hl 0 rfl) ?_
      refine lv_iload_n hx hb dL_law_206 rfl (lv_at hl 3 rfl) ?_
      refine lv_iconst (v := 1) hx hb dL_law_207 (by decide) ?_
      refine lv_iadd hx hb dL_law_208 ?_
      obtain ⟨c_4, hf⟩ := gi_e hf
      refine va_sld hx hb hX hbl hbA hS c_4 dL_law_209 ?_
      obtain ⟨a_5, ha_5, hf⟩ := bd_e hf
      refine Ct.callVg (As := [.int (xs ((q18.1 + (1 : Int32))).toNatClampNeg)]) (rest := []) (st1 := [.int a_5.1]) ⟨Nat.le_of_ble_eq_true rfl, Nat.le_of_ble_eq_true rfl⟩ (c_X4_letter l D cI A q18.2.1 q18.2.2.1 q18.2.2.2.1 q18.2.2.2.2.1 q18.2.2.2.2.2.1 q18.2.2.2.2.2.2.1 q18.2.2.2.2.2.2.2.1 (xs ((q18.1 + (1 : Int32))).toNatClampNeg) a_5 ha_5) hx hb hml hown hts (cwV 1 hts gL_law_X4_letter rfl rfl rfl hd_X4_letter ⟨Nat.le_of_ble_eq_true rfl, Nat.le_of_ble_eq_true rfl⟩) (va_recv hK hP (ci := 4) (q0 := 0) rfl cL_at0) ln_L_X hA hK hP hD hS rfl hl.1 rfl rfl (Nat.le_of_ble_eq_true rfl) dL_law_210 (fun H locs hP hD hS => ?_)
      replace hP : va_P D vwCl (cL cI A B q18.2.1 q18.2.2.1 q18.2.2.2.1 a_5.2.1 q18.2.2.2.2.2.1 q18.2.2.2.2.2.2.1 a_5.2.2 q18.2.2.2.2.2.2.2.2) H := hP
      replace hD : va_D (fun q : Nat => s.heap.size ≤ q) (cL cI A B q18.2.1 q18.2.2.1 q18.2.2.2.1 a_5.2.1 q18.2.2.2.2.2.1 q18.2.2.2.2.2.2.1 a_5.2.2 q18.2.2.2.2.2.2.2.2) := hD
      refine lv_aload_n hx hb dL_law_213 rfl (lv_at hl 2 rfl) ?_
      refine lv_aload_n hx hb dL_law_214 rfl (lv_at hl 0 rfl) ?_
      refine lv_iload_n hx hb dL_law_215 rfl (lv_at hl 3 rfl) ?_
      refine lv_iconst (v := 1) hx hb dL_law_216 (by decide) ?_
      refine lv_iadd hx hb dL_law_217 ?_
      obtain ⟨c_6, hf⟩ := gi_e hf
      refine va_sld hx hb hX hbl hbA hS c_6 dL_law_218 ?_
      obtain ⟨a_7, ha_7, hf⟩ := bd_e hf
      refine Ct.callVg (As := [.int (xs ((q18.1 + (1 : Int32))).toNatClampNeg)]) (rest := [.int a_5.1]) (st1 := [.int a_7.1, .int a_5.1]) ⟨Nat.le_of_ble_eq_true rfl, Nat.le_of_ble_eq_true rfl⟩ (c_X5_letter l D cI B q18.2.2.2.2.2.2.2.2 (xs ((q18.1 + (1 : Int32))).toNatClampNeg) a_7 ha_7) hx hb hml hown hts (cwV 1 hts gL_law_X5_letter rfl rfl rfl hd_X5_letter ⟨Nat.le_of_ble_eq_true rfl, Nat.le_of_ble_eq_true rfl⟩) (va_recv hK hP (ci := 5) (q0 := 34) rfl cL_at34) ln_L_M hA hK hP hD hS rfl hl.1 rfl rfl (Nat.le_of_ble_eq_true rfl) dL_law_219 (fun H locs hP hD hS => ?_)
      replace hP : va_P D vwCl (cL cI A B q18.2.1 q18.2.2.1 q18.2.2.2.1 a_5.2.1 q18.2.2.2.2.2.1 q18.2.2.2.2.2.2.1 a_5.2.2 a_7.2) H := hP
      replace hD : va_D (fun q : Nat => s.heap.size ≤ q) (cL cI A B q18.2.1 q18.2.2.1 q18.2.2.2.1 a_5.2.1 q18.2.2.2.2.2.1 q18.2.2.2.2.2.2.1 a_5.2.2 a_7.2) := hD
      refine lv_icmp_eq (tgt := 1163) hx hb dL_law_222 (by decide) (fun c_8 => ?_) (fun c_8 => ?_)
      · replace hf := if_t c_8 hf
        obtain ⟨v_9, ev_9, hf⟩ := nq_e hf
        refine lv_iinc (v := v_9) (lv' := [(3, .int v_9), (0, .ref b), (1, .ref (A 0)), (2, .ref (B 0))]) hx hb dL_law_1163 hl (k := 3) rfl (by rw [ev_9]; rfl) (by decide) rfl (fun ls hl => ?_)
        refine lv_goto (tgt := 18) hx hb dL_law_1166 (by decide) ?_
        exact ih18 (v_9, q18.2.1, q18.2.2.1, q18.2.2.2.1, a_5.2.1, q18.2.2.2.2.2.1, q18.2.2.2.2.2.2.1, a_5.2.2, a_7.2) hf H locs ls hP hD hS (lv_sub hl [1, 2, 3, 0] rfl)
      · replace hf := if_f c_8 hf
        refine lv_iconst (v := 0) hx hb dL_law_225 (by decide) ?_
        exact absurd (Option.some.inj hf) (by decide)
    · replace hf := if_f c_3 hf
      by_cases c_10 : ((xs (q18.1).toNatClampNeg) &&& (63 : Int32)) = 1
      · replace hf := if_t c_10 hf
        refine lv_tableIn (off := 195) (tgt := 227) hx hb dL_law_32 (by rw [c_10]; decide +kernel) (by rw [c_10]; decide +kernel) (by rw [c_10]; decide +kernel) (by decide) ?_
        refine lv_aload_n hx hb dL_law_227 rfl (lv_at hl 1 rfl) ?_
        obtain ⟨a_11, ha_11, hf⟩ := bd_e hf
        refine Cw.callVg (As := []) (rest := []) (st1 := [.int a_11.1]) ⟨Nat.le_of_ble_eq_true rfl, Nat.le_of_ble_eq_true rfl⟩ (c_X4_harbour l D cI adK adV A q18.2.1 q18.2.2.1 q18.2.2.2.1 q18.2.2.2.2.1 q18.2.2.2.2.2.1 q18.2.2.2.2.2.2.1 q18.2.2.2.2.2.2.2.1 a_11 ha_11) hE hx hb hml hown hts (cwV 0 hts gL_law_X4_harbour rfl rfl rfl hd_X4_harbour ⟨Nat.le_of_ble_eq_true rfl, Nat.le_of_ble_eq_true rfl⟩) (va_recv hK hP (ci := 4) (q0 := 0) rfl cL_at0) ln_L_X hA hK hP hD hS rfl hl.1 rfl rfl (Nat.le_of_ble_eq_true rfl) dL_law_228 (fun H locs hP hD hS => ?_)
        replace hP : va_P D vwCl (cL cI A B a_11.2.1 a_11.2.2.1 q18.2.2.2.1 a_11.2.2.2 q18.2.2.2.2.2.1 q18.2.2.2.2.2.2.1 q18.2.2.2.2.2.2.2.1 q18.2.2.2.2.2.2.2.2) H := hP
        replace hD : va_D (fun q : Nat => s.heap.size ≤ q) (cL cI A B a_11.2.1 a_11.2.2.1 q18.2.2.2.1 a_11.2.2.2 q18.2.2.2.2.2.1 q18.2.2.2.2.2.2.1 q18.2.2.2.2.2.2.2.1 q18.2.2.2.2.2.2.2.2) := hD
        refine lv_aload_n hx hb dL_law_231 rfl (lv_at hl 2 rfl) ?_
        obtain ⟨a_12, ha_12, hf⟩ := bd_e hf
        refine Ct.callVg (As := []) (rest := [.int a_11.1]) (st1 := [.int a_12.1, .int a_11.1]) ⟨Nat.le_of_ble_eq_true rfl, Nat.le_of_ble_eq_true rfl⟩ (c_X5_harbour l D cI B q18.2.2.2.2.2.2.2.2 a_12 ha_12) hx hb hml hown hts (cwV 0 hts gL_law_X5_harbour rfl rfl rfl hd_X5_harbour ⟨Nat.le_of_ble_eq_true rfl, Nat.le_of_ble_eq_true rfl⟩) (va_recv hK hP (ci := 5) (q0 := 34) rfl cL_at34) ln_L_M hA hK hP hD hS rfl hl.1 rfl rfl (Nat.le_of_ble_eq_true rfl) dL_law_232 (fun H locs hP hD hS => ?_)
        replace hP : va_P D vwCl (cL cI A B a_11.2.1 a_11.2.2.1 q18.2.2.2.1 a_11.2.2.2 q18.2.2.2.2.2.1 q18.2.2.2.2.2.2.1 q18.2.2.2.2.2.2.2.1 a_12.2) H := hP
        replace hD : va_D (fun q : Nat => s.heap.size ≤ q) (cL cI A B a_11.2.1 a_11.2.2.1 q18.2.2.2.1 a_11.2.2.2 q18.2.2.2.2.2.1 q18.2.2.2.2.2.2.1 q18.2.2.2.2.2.2.2.1 a_12.2) := hD
        refine lv_icmp_eq (tgt := 1163) hx hb dL_law_235 (by decide) (fun c_13 => ?_) (fun c_13 => ?_)
        · replace hf := if_t c_13 hf
          obtain ⟨v_14, ev_14, hf⟩ := nq_e hf
          refine lv_iinc (v := v_14) (lv' := [(3, .int v_14), (0, .ref b), (1, .ref (A 0)), (2, .ref (B 0))]) hx hb dL_law_1163 hl (k := 3) rfl (by rw [ev_14]; rfl) (by decide) rfl (fun ls hl => ?_)
          refine lv_goto (tgt := 18) hx hb dL_law_1166 (by decide) ?_
          exact ih18 (v_14, a_11.2.1, a_11.2.2.1, q18.2.2.2.1, a_11.2.2.2, q18.2.2.2.2.2.1, q18.2.2.2.2.2.2.1, q18.2.2.2.2.2.2.2.1, a_12.2) hf H locs ls hP hD hS (lv_sub hl [1, 2, 3, 0] rfl)
        · replace hf := if_f c_13 hf
          refine lv_iconst (v := 0) hx hb dL_law_238 (by decide) ?_
          exact absurd (Option.some.inj hf) (by decide)
      · replace hf := if_f c_10 hf
        by_cases c_15 : ((xs (q18.1).toNatClampNeg) &&& (63 : Int32)) = 2
        · replace hf := if_t c_15 hf
          refine lv_tableIn (off := 208) (tgt := 240) hx hb dL_law_32 (by rw [c_15]; decide +kernel) (by rw [c_15]; decide +kernel) (by rw [c_15]; decide +kernel) (by decide) ?_
          refine lv_aload_n hx hb dL_law_240 rfl (lv_at hl 1 rfl) ?_
          refine lv_aload_n hx hb dL_law_241 rfl (lv_at hl 0 rfl) ?_
          refine lv_iload_n hx hb dL_law_242 rfl (lv_at hl 3 rfl) ?_
          refine lv_iconst (v := 1) hx hb dL_law_243 (by decide) ?_
          refine lv_iadd hx hb dL_law_244 ?_
          obtain ⟨c_16, hf⟩ := gi_e hf
          refine va_sld hx hb hX hbl hbA hS c_16 dL_law_245 ?_
          refine lv_aload_n hx hb dL_law_246 rfl (lv_at hl 0 rfl) ?_
          refine lv_iload_n hx hb dL_law_247 rfl (lv_at hl 3 rfl) ?_
          refine lv_iconst (v := 2) hx hb dL_law_248 (by decide) ?_
          refine lv_iadd hx hb dL_law_249 ?_
          obtain ⟨c_17, hf⟩ := gi_e hf
          refine va_sld hx hb hX hbl hbA hS c_17 dL_law_250 ?_
          obtain ⟨a_18, ha_18, hf⟩ := bd_e hf
          refine Ct.callVg (As := [.int (xs ((q18.1 + (1 : Int32))).toNatClampNeg), .int (xs ((q18.1 + (2 : Int32))).toNatClampNeg)]) (rest := []) (st1 := [.int a_18.1]) ⟨Nat.le_of_ble_eq_true rfl, Nat.le_of_ble_eq_true rfl⟩ (c_X4_ship l D cI A q18.2.1 q18.2.2.1 q18.2.2.2.1 q18.2.2.2.2.1 q18.2.2.2.2.2.1 q18.2.2.2.2.2.2.1 q18.2.2.2.2.2.2.2.1 (xs ((q18.1 + (1 : Int32))).toNatClampNeg) (xs ((q18.1 + (2 : Int32))).toNatClampNeg) a_18 ha_18) hx hb hml hown hts (cwV 2 hts gL_law_X4_ship rfl rfl rfl hd_X4_ship ⟨Nat.le_of_ble_eq_true rfl, Nat.le_of_ble_eq_true rfl⟩) (va_recv hK hP (ci := 4) (q0 := 0) rfl cL_at0) ln_L_X hA hK hP hD hS rfl hl.1 rfl rfl (Nat.le_of_ble_eq_true rfl) dL_law_251 (fun H locs hP hD hS => ?_)
          replace hP : va_P D vwCl (cL cI A B q18.2.1 q18.2.2.1 q18.2.2.2.1 q18.2.2.2.2.1 q18.2.2.2.2.2.1 q18.2.2.2.2.2.2.1 a_18.2 q18.2.2.2.2.2.2.2.2) H := hP
          replace hD : va_D (fun q : Nat => s.heap.size ≤ q) (cL cI A B q18.2.1 q18.2.2.1 q18.2.2.2.1 q18.2.2.2.2.1 q18.2.2.2.2.2.1 q18.2.2.2.2.2.2.1 a_18.2 q18.2.2.2.2.2.2.2.2) := hD
          refine lv_aload_n hx hb dL_law_254 rfl (lv_at hl 2 rfl) ?_
          refine lv_aload_n hx hb dL_law_255 rfl (lv_at hl 0 rfl) ?_
          refine lv_iload_n hx hb dL_law_256 rfl (lv_at hl 3 rfl) ?_
          refine lv_iconst (v := 1) hx hb dL_law_257 (by decide) ?_
          refine lv_iadd hx hb dL_law_258 ?_
          obtain ⟨c_19, hf⟩ := gi_e hf
          refine va_sld hx hb hX hbl hbA hS c_19 dL_law_259 ?_
          refine lv_aload_n hx hb dL_law_260 rfl (lv_at hl 0 rfl) ?_
          refine lv_iload_n hx hb dL_law_261 rfl (lv_at hl 3 rfl) ?_
          refine lv_iconst (v := 2) hx hb dL_law_262 (by decide) ?_
          refine lv_iadd hx hb dL_law_263 ?_
          obtain ⟨c_20, hf⟩ := gi_e hf
          refine va_sld hx hb hX hbl hbA hS c_20 dL_law_264 ?_
          obtain ⟨a_21, ha_21, hf⟩ := bd_e hf
          refine Ct.callVg (As := [.int (xs ((q18.1 + (1 : Int32))).toNatClampNeg), .int (xs ((q18.1 + (2 : Int32))).toNatClampNeg)]) (rest := [.int a_18.1]) (st1 := [.int a_21.1, .int a_18.1]) ⟨Nat.le_of_ble_eq_true rfl, Nat.le_of_ble_eq_true rfl⟩ (c_X5_ship l D cI B q18.2.2.2.2.2.2.2.2 (xs ((q18.1 + (1 : Int32))).toNatClampNeg) (xs ((q18.1 + (2 : Int32))).toNatClampNeg) a_21 ha_21) hx hb hml hown hts (cwV 2 hts gL_law_X5_ship rfl rfl rfl hd_X5_ship ⟨Nat.le_of_ble_eq_true rfl, Nat.le_of_ble_eq_true rfl⟩) (va_recv hK hP (ci := 5) (q0 := 34) rfl cL_at34) ln_L_M hA hK hP hD hS rfl hl.1 rfl rfl (Nat.le_of_ble_eq_true rfl) dL_law_265 (fun H locs hP hD hS => ?_)
          replace hP : va_P D vwCl (cL cI A B q18.2.1 q18.2.2.1 q18.2.2.2.1 q18.2.2.2.2.1 q18.2.2.2.2.2.1 q18.2.2.2.2.2.2.1 a_18.2 a_21.2) H := hP
          replace hD : va_D (fun q : Nat => s.heap.size ≤ q) (cL cI A B q18.2.1 q18.2.2.1 q18.2.2.2.1 q18.2.2.2.2.1 q18.2.2.2.2.2.1 q18.2.2.2.2.2.2.1 a_18.2 a_21.2) := hD
          refine lv_icmp_eq (tgt := 1163) hx hb dL_law_268 (by decide) (fun c_22 => ?_) (fun c_22 => ?_)
          · replace hf := if_t c_22 hf
            obtain ⟨v_23, ev_23, hf⟩ := nq_e hf
            refine lv_iinc (v := v_23) (lv' := [(3, .int v_23), (0, .ref b), (1, .ref (A 0)), (2, .ref (B 0))]) hx hb dL_law_1163 hl (k := 3) rfl (by rw [ev_23]; rfl) (by decide) rfl (fun ls hl => ?_)
            refine lv_goto (tgt := 18) hx hb dL_law_1166 (by decide) ?_
            exact ih18 (v_23, q18.2.1, q18.2.2.1, q18.2.2.2.1, q18.2.2.2.2.1, q18.2.2.2.2.2.1, q18.2.2.2.2.2.2.1, a_18.2, a_21.2) hf H locs ls hP hD hS (lv_sub hl [1, 2, 3, 0] rfl)
          · replace hf := if_f c_22 hf
            refine lv_iconst (v := 0) hx hb dL_law_271 (by decide) ?_
            exact absurd (Option.some.inj hf) (by decide)
        · replace hf := if_f c_15 hf
          by_cases c_24 : ((xs (q18.1).toNatClampNeg) &&& (63 : Int32)) = 3
          · replace hf := if_t c_24 hf
            refine lv_tableIn (off := 241) (tgt := 273) hx hb dL_law_32 (by rw [c_24]; decide +kernel) (by rw [c_24]; decide +kernel) (by rw [c_24]; decide +kernel) (by decide) ?_
            refine lv_aload_n hx hb dL_law_273 rfl (lv_at hl 1 rfl) ?_
            refine lv_aload_n hx hb dL_law_274 rfl (lv_at hl 0 rfl) ?_
            refine lv_iload_n hx hb dL_law_275 rfl (lv_at hl 3 rfl) ?_
            refine lv_iconst (v := 1) hx hb dL_law_276 (by decide) ?_
            refine lv_iadd hx hb dL_law_277 ?_
            obtain ⟨c_25, hf⟩ := gi_e hf
            refine va_sld hx hb hX hbl hbA hS c_25 dL_law_278 ?_
            refine lv_aload_n hx hb dL_law_279 rfl (lv_at hl 0 rfl) ?_
            refine lv_iload_n hx hb dL_law_280 rfl (lv_at hl 3 rfl) ?_
            refine lv_iconst (v := 2) hx hb dL_law_281 (by decide) ?_
            refine lv_iadd hx hb dL_law_282 ?_
            obtain ⟨c_26, hf⟩ := gi_e hf
            refine va_sld hx hb hX hbl hbA hS c_26 dL_law_283 ?_
            obtain ⟨a_27, ha_27, hf⟩ := bd_e hf
            refine Ct.callVg (As := [.int (xs ((q18.1 + (1 : Int32))).toNatClampNeg), .int (xs ((q18.1 + (2 : Int32))).toNatClampNeg)]) (rest := []) (st1 := [.int a_27.1]) ⟨Nat.le_of_ble_eq_true rfl, Nat.le_of_ble_eq_true rfl⟩ (c_X4_man l D cI A q18.2.1 q18.2.2.1 q18.2.2.2.1 q18.2.2.2.2.1 q18.2.2.2.2.2.1 q18.2.2.2.2.2.2.1 q18.2.2.2.2.2.2.2.1 (xs ((q18.1 + (1 : Int32))).toNatClampNeg) (xs ((q18.1 + (2 : Int32))).toNatClampNeg) a_27 ha_27) hx hb hml hown hts (cwV 2 hts gL_law_X4_man rfl rfl rfl hd_X4_man ⟨Nat.le_of_ble_eq_true rfl, Nat.le_of_ble_eq_true rfl⟩) (va_recv hK hP (ci := 4) (q0 := 0) rfl cL_at0) ln_L_X hA hK hP hD hS rfl hl.1 rfl rfl (Nat.le_of_ble_eq_true rfl) dL_law_284 (fun H locs hP hD hS => ?_)
            replace hP : va_P D vwCl (cL cI A B q18.2.1 q18.2.2.1 q18.2.2.2.1 q18.2.2.2.2.1 q18.2.2.2.2.2.1 q18.2.2.2.2.2.2.1 a_27.2 q18.2.2.2.2.2.2.2.2) H := hP
            replace hD : va_D (fun q : Nat => s.heap.size ≤ q) (cL cI A B q18.2.1 q18.2.2.1 q18.2.2.2.1 q18.2.2.2.2.1 q18.2.2.2.2.2.1 q18.2.2.2.2.2.2.1 a_27.2 q18.2.2.2.2.2.2.2.2) := hD
            refine lv_aload_n hx hb dL_law_287 rfl (lv_at hl 2 rfl) ?_
            refine lv_aload_n hx hb dL_law_288 rfl (lv_at hl 0 rfl) ?_
            refine lv_iload_n hx hb dL_law_289 rfl (lv_at hl 3 rfl) ?_
            refine lv_iconst (v := 1) hx hb dL_law_290 (by decide) ?_
            refine lv_iadd hx hb dL_law_291 ?_
            obtain ⟨c_28, hf⟩ := gi_e hf
            refine va_sld hx hb hX hbl hbA hS c_28 dL_law_292 ?_
            refine lv_aload_n hx hb dL_law_293 rfl (lv_at hl 0 rfl) ?_
            refine lv_iload_n hx hb dL_law_294 rfl (lv_at hl 3 rfl) ?_
            refine lv_iconst (v := 2) hx hb dL_law_295 (by decide) ?_
            refine lv_iadd hx hb dL_law_296 ?_
            obtain ⟨c_29, hf⟩ := gi_e hf
            refine va_sld hx hb hX hbl hbA hS c_29 dL_law_297 ?_
            obtain ⟨a_30, ha_30, hf⟩ := bd_e hf
            refine Ct.callVg (As := [.int (xs ((q18.1 + (1 : Int32))).toNatClampNeg), .int (xs ((q18.1 + (2 : Int32))).toNatClampNeg)]) (rest := [.int a_27.1]) (st1 := [.int a_30.1, .int a_27.1]) ⟨Nat.le_of_ble_eq_true rfl, Nat.le_of_ble_eq_true rfl⟩ (c_X5_man l D cI B q18.2.2.2.2.2.2.2.2 (xs ((q18.1 + (1 : Int32))).toNatClampNeg) (xs ((q18.1 + (2 : Int32))).toNatClampNeg) a_30 ha_30) hx hb hml hown hts (cwV 2 hts gL_law_X5_man rfl rfl rfl hd_X5_man ⟨Nat.le_of_ble_eq_true rfl, Nat.le_of_ble_eq_true rfl⟩) (va_recv hK hP (ci := 5) (q0 := 34) rfl cL_at34) ln_L_M hA hK hP hD hS rfl hl.1 rfl rfl (Nat.le_of_ble_eq_true rfl) dL_law_298 (fun H locs hP hD hS => ?_)
            replace hP : va_P D vwCl (cL cI A B q18.2.1 q18.2.2.1 q18.2.2.2.1 q18.2.2.2.2.1 q18.2.2.2.2.2.1 q18.2.2.2.2.2.2.1 a_27.2 a_30.2) H := hP
            replace hD : va_D (fun q : Nat => s.heap.size ≤ q) (cL cI A B q18.2.1 q18.2.2.1 q18.2.2.2.1 q18.2.2.2.2.1 q18.2.2.2.2.2.1 q18.2.2.2.2.2.2.1 a_27.2 a_30.2) := hD
            refine lv_icmp_eq (tgt := 1163) hx hb dL_law_301 (by decide) (fun c_31 => ?_) (fun c_31 => ?_)
            · replace hf := if_t c_31 hf
              obtain ⟨v_32, ev_32, hf⟩ := nq_e hf
              refine lv_iinc (v := v_32) (lv' := [(3, .int v_32), (0, .ref b), (1, .ref (A 0)), (2, .ref (B 0))]) hx hb dL_law_1163 hl (k := 3) rfl (by rw [ev_32]; rfl) (by decide) rfl (fun ls hl => ?_)
              refine lv_goto (tgt := 18) hx hb dL_law_1166 (by decide) ?_
              exact ih18 (v_32, q18.2.1, q18.2.2.1, q18.2.2.2.1, q18.2.2.2.2.1, q18.2.2.2.2.2.1, q18.2.2.2.2.2.2.1, a_27.2, a_30.2) hf H locs ls hP hD hS (lv_sub hl [1, 2, 3, 0] rfl)
            · replace hf := if_f c_31 hf
              refine lv_iconst (v := 0) hx hb dL_law_304 (by decide) ?_
              exact absurd (Option.some.inj hf) (by decide)
          · replace hf := if_f c_24 hf
            by_cases c_33 : ((xs (q18.1).toNatClampNeg) &&& (63 : Int32)) = 4
            · replace hf := if_t c_33 hf
              refine lv_tableIn (off := 274) (tgt := 306) hx hb dL_law_32 (by rw [c_33]; decide +kernel) (by rw [c_33]; decide +kernel) (by rw [c_33]; decide +kernel) (by decide) ?_
              refine lv_aload_n hx hb dL_law_306 rfl (lv_at hl 1 rfl) ?_
              refine lv_aload_n hx hb dL_law_307 rfl (lv_at hl 0 rfl) ?_
              refine lv_iload_n hx hb dL_law_308 rfl (lv_at hl 3 rfl) ?_
              refine lv_iconst (v := 1) hx hb dL_law_309 (by decide) ?_
              refine lv_iadd hx hb dL_law_310 ?_
              obtain ⟨c_34, hf⟩ := gi_e hf
              refine va_sld hx hb hX hbl hbA hS c_34 dL_law_311 ?_
              obtain ⟨a_35, ha_35, hf⟩ := bd_e hf
              refine Ct.callVg (As := [.int (xs ((q18.1 + (1 : Int32))).toNatClampNeg)]) (rest := []) (st1 := [.int a_35.1]) ⟨Nat.le_of_ble_eq_true rfl, Nat.le_of_ble_eq_true rfl⟩ (c_X4_tells l D cI A q18.2.1 q18.2.2.1 q18.2.2.2.1 q18.2.2.2.2.1 q18.2.2.2.2.2.1 q18.2.2.2.2.2.2.1 q18.2.2.2.2.2.2.2.1 (xs ((q18.1 + (1 : Int32))).toNatClampNeg) a_35 ha_35) hx hb hml hown hts (cwV 1 hts gL_law_X4_tells rfl rfl rfl hd_X4_tells ⟨Nat.le_of_ble_eq_true rfl, Nat.le_of_ble_eq_true rfl⟩) (va_recv hK hP (ci := 4) (q0 := 0) rfl cL_at0) ln_L_X hA hK hP hD hS rfl hl.1 rfl rfl (Nat.le_of_ble_eq_true rfl) dL_law_312 (fun H locs hP hD hS => ?_)
              replace hP : va_P D vwCl (cL cI A B a_35.2.1 q18.2.2.1 q18.2.2.2.1 q18.2.2.2.2.1 q18.2.2.2.2.2.1 q18.2.2.2.2.2.2.1 a_35.2.2 q18.2.2.2.2.2.2.2.2) H := hP
              replace hD : va_D (fun q : Nat => s.heap.size ≤ q) (cL cI A B a_35.2.1 q18.2.2.1 q18.2.2.2.1 q18.2.2.2.2.1 q18.2.2.2.2.2.1 q18.2.2.2.2.2.2.1 a_35.2.2 q18.2.2.2.2.2.2.2.2) := hD
              refine lv_aload_n hx hb dL_law_315 rfl (lv_at hl 2 rfl) ?_
              refine lv_aload_n hx hb dL_law_316 rfl (lv_at hl 0 rfl) ?_
              refine lv_iload_n hx hb dL_law_317 rfl (lv_at hl 3 rfl) ?_
              refine lv_iconst (v := 1) hx hb dL_law_318 (by decide) ?_
              refine lv_iadd hx hb dL_law_319 ?_
              obtain ⟨c_36, hf⟩ := gi_e hf
              refine va_sld hx hb hX hbl hbA hS c_36 dL_law_320 ?_
              obtain ⟨a_37, ha_37, hf⟩ := bd_e hf
              refine Ct.callVg (As := [.int (xs ((q18.1 + (1 : Int32))).toNatClampNeg)]) (rest := [.int a_35.1]) (st1 := [.int a_37.1, .int a_35.1]) ⟨Nat.le_of_ble_eq_true rfl, Nat.le_of_ble_eq_true rfl⟩ (c_X5_tells l D cI B q18.2.2.2.2.2.2.2.2 (xs ((q18.1 + (1 : Int32))).toNatClampNeg) a_37 ha_37) hx hb hml hown hts (cwV 1 hts gL_law_X5_tells rfl rfl rfl hd_X5_tells ⟨Nat.le_of_ble_eq_true rfl, Nat.le_of_ble_eq_true rfl⟩) (va_recv hK hP (ci := 5) (q0 := 34) rfl cL_at34) ln_L_M hA hK hP hD hS rfl hl.1 rfl rfl (Nat.le_of_ble_eq_true rfl) dL_law_321 (fun H locs hP hD hS => ?_)
              replace hP : va_P D vwCl (cL cI A B a_35.2.1 q18.2.2.1 q18.2.2.2.1 q18.2.2.2.2.1 q18.2.2.2.2.2.1 q18.2.2.2.2.2.2.1 a_35.2.2 a_37.2) H := hP
              replace hD : va_D (fun q : Nat => s.heap.size ≤ q) (cL cI A B a_35.2.1 q18.2.2.1 q18.2.2.2.1 q18.2.2.2.2.1 q18.2.2.2.2.2.1 q18.2.2.2.2.2.2.1 a_35.2.2 a_37.2) := hD
              refine lv_icmp_eq (tgt := 1163) hx hb dL_law_324 (by decide) (fun c_38 => ?_) (fun c_38 => ?_)
              · replace hf := if_t c_38 hf
                obtain ⟨v_39, ev_39, hf⟩ := nq_e hf
                refine lv_iinc (v := v_39) (lv' := [(3, .int v_39), (0, .ref b), (1, .ref (A 0)), (2, .ref (B 0))]) hx hb dL_law_1163 hl (k := 3) rfl (by rw [ev_39]; rfl) (by decide) rfl (fun ls hl => ?_)
                refine lv_goto (tgt := 18) hx hb dL_law_1166 (by decide) ?_
                exact ih18 (v_39, a_35.2.1, q18.2.2.1, q18.2.2.2.1, q18.2.2.2.2.1, q18.2.2.2.2.2.1, q18.2.2.2.2.2.2.1, a_35.2.2, a_37.2) hf H locs ls hP hD hS (lv_sub hl [1, 2, 3, 0] rfl)
              · replace hf := if_f c_38 hf
                refine lv_iconst (v := 0) hx hb dL_law_327 (by decide) ?_
                exact absurd (Option.some.inj hf) (by decide)
            · replace hf := if_f c_33 hf
              by_cases c_40 : ((xs (q18.1).toNatClampNeg) &&& (63 : Int32)) = 5
              · replace hf := if_t c_40 hf
                refine lv_tableIn (off := 297) (tgt := 329) hx hb dL_law_32 (by rw [c_40]; decide +kernel) (by rw [c_40]; decide +kernel) (by rw [c_40]; decide +kernel) (by decide) ?_
                refine lv_aload_n hx hb dL_law_329 rfl (lv_at hl 1 rfl) ?_
                refine lv_aload_n hx hb dL_law_330 rfl (lv_at hl 0 rfl) ?_
                refine lv_iload_n hx hb dL_law_331 rfl (lv_at hl 3 rfl) ?_
                refine lv_iconst (v := 1) hx hb dL_law_332 (by decide) ?_
                refine lv_iadd hx hb dL_law_333 ?_
                obtain ⟨c_41, hf⟩ := gi_e hf
                refine va_sld hx hb hX hbl hbA hS c_41 dL_law_334 ?_
                refine lv_aload_n hx hb dL_law_335 rfl (lv_at hl 0 rfl) ?_
                refine lv_iload_n hx hb dL_law_336 rfl (lv_at hl 3 rfl) ?_
                refine lv_iconst (v := 2) hx hb dL_law_337 (by decide) ?_
                refine lv_iadd hx hb dL_law_338 ?_
                obtain ⟨c_42, hf⟩ := gi_e hf
                refine va_sld hx hb hX hbl hbA hS c_42 dL_law_339 ?_
                obtain ⟨a_43, ha_43, hf⟩ := bd_e hf
                refine Ct.callVg (As := [.int (xs ((q18.1 + (1 : Int32))).toNatClampNeg), .int (xs ((q18.1 + (2 : Int32))).toNatClampNeg)]) (rest := []) (st1 := [.int a_43.1]) ⟨Nat.le_of_ble_eq_true rfl, Nat.le_of_ble_eq_true rfl⟩ (c_X4_boards l D cI A q18.2.1 q18.2.2.1 q18.2.2.2.1 q18.2.2.2.2.1 q18.2.2.2.2.2.1 q18.2.2.2.2.2.2.1 q18.2.2.2.2.2.2.2.1 (xs ((q18.1 + (1 : Int32))).toNatClampNeg) (xs ((q18.1 + (2 : Int32))).toNatClampNeg) a_43 ha_43) hx hb hml hown hts (cwV 2 hts gL_law_X4_boards rfl rfl rfl hd_X4_boards ⟨Nat.le_of_ble_eq_true rfl, Nat.le_of_ble_eq_true rfl⟩) (va_recv hK hP (ci := 4) (q0 := 0) rfl cL_at0) ln_L_X hA hK hP hD hS rfl hl.1 rfl rfl (Nat.le_of_ble_eq_true rfl) dL_law_340 (fun H locs hP hD hS => ?_)
                replace hP : va_P D vwCl (cL cI A B a_43.2.1 q18.2.2.1 q18.2.2.2.1 q18.2.2.2.2.1 q18.2.2.2.2.2.1 q18.2.2.2.2.2.2.1 a_43.2.2 q18.2.2.2.2.2.2.2.2) H := hP
                replace hD : va_D (fun q : Nat => s.heap.size ≤ q) (cL cI A B a_43.2.1 q18.2.2.1 q18.2.2.2.1 q18.2.2.2.2.1 q18.2.2.2.2.2.1 q18.2.2.2.2.2.2.1 a_43.2.2 q18.2.2.2.2.2.2.2.2) := hD
                refine lv_aload_n hx hb dL_law_343 rfl (lv_at hl 2 rfl) ?_
                refine lv_aload_n hx hb dL_law_344 rfl (lv_at hl 0 rfl) ?_
                refine lv_iload_n hx hb dL_law_345 rfl (lv_at hl 3 rfl) ?_
                refine lv_iconst (v := 1) hx hb dL_law_346 (by decide) ?_
                refine lv_iadd hx hb dL_law_347 ?_
                obtain ⟨c_44, hf⟩ := gi_e hf
                refine va_sld hx hb hX hbl hbA hS c_44 dL_law_348 ?_
                refine lv_aload_n hx hb dL_law_349 rfl (lv_at hl 0 rfl) ?_
                refine lv_iload_n hx hb dL_law_350 rfl (lv_at hl 3 rfl) ?_
                refine lv_iconst (v := 2) hx hb dL_law_351 (by decide) ?_
                refine lv_iadd hx hb dL_law_352 ?_
                obtain ⟨c_45, hf⟩ := gi_e hf
                refine va_sld hx hb hX hbl hbA hS c_45 dL_law_353 ?_
                obtain ⟨a_46, ha_46, hf⟩ := bd_e hf
                refine Ct.callVg (As := [.int (xs ((q18.1 + (1 : Int32))).toNatClampNeg), .int (xs ((q18.1 + (2 : Int32))).toNatClampNeg)]) (rest := [.int a_43.1]) (st1 := [.int a_46.1, .int a_43.1]) ⟨Nat.le_of_ble_eq_true rfl, Nat.le_of_ble_eq_true rfl⟩ (c_X5_boards l D cI B q18.2.2.2.2.2.2.2.2 (xs ((q18.1 + (1 : Int32))).toNatClampNeg) (xs ((q18.1 + (2 : Int32))).toNatClampNeg) a_46 ha_46) hx hb hml hown hts (cwV 2 hts gL_law_X5_boards rfl rfl rfl hd_X5_boards ⟨Nat.le_of_ble_eq_true rfl, Nat.le_of_ble_eq_true rfl⟩) (va_recv hK hP (ci := 5) (q0 := 34) rfl cL_at34) ln_L_M hA hK hP hD hS rfl hl.1 rfl rfl (Nat.le_of_ble_eq_true rfl) dL_law_354 (fun H locs hP hD hS => ?_)
                replace hP : va_P D vwCl (cL cI A B a_43.2.1 q18.2.2.1 q18.2.2.2.1 q18.2.2.2.2.1 q18.2.2.2.2.2.1 q18.2.2.2.2.2.2.1 a_43.2.2 a_46.2) H := hP
                replace hD : va_D (fun q : Nat => s.heap.size ≤ q) (cL cI A B a_43.2.1 q18.2.2.1 q18.2.2.2.1 q18.2.2.2.2.1 q18.2.2.2.2.2.1 q18.2.2.2.2.2.2.1 a_43.2.2 a_46.2) := hD
                refine lv_icmp_eq (tgt := 1163) hx hb dL_law_357 (by decide) (fun c_47 => ?_) (fun c_47 => ?_)
                · replace hf := if_t c_47 hf
                  obtain ⟨v_48, ev_48, hf⟩ := nq_e hf
                  refine lv_iinc (v := v_48) (lv' := [(3, .int v_48), (0, .ref b), (1, .ref (A 0)), (2, .ref (B 0))]) hx hb dL_law_1163 hl (k := 3) rfl (by rw [ev_48]; rfl) (by decide) rfl (fun ls hl => ?_)
                  refine lv_goto (tgt := 18) hx hb dL_law_1166 (by decide) ?_
                  exact ih18 (v_48, a_43.2.1, q18.2.2.1, q18.2.2.2.1, q18.2.2.2.2.1, q18.2.2.2.2.2.1, q18.2.2.2.2.2.2.1, a_43.2.2, a_46.2) hf H locs ls hP hD hS (lv_sub hl [1, 2, 3, 0] rfl)
                · replace hf := if_f c_47 hf
                  refine lv_iconst (v := 0) hx hb dL_law_360 (by decide) ?_
                  exact absurd (Option.some.inj hf) (by decide)
              · replace hf := if_f c_40 hf
                by_cases c_49 : ((xs (q18.1).toNatClampNeg) &&& (63 : Int32)) = 6
                · replace hf := if_t c_49 hf
                  refine lv_tableIn (off := 330) (tgt := 362) hx hb dL_law_32 (by rw [c_49]; decide +kernel) (by rw [c_49]; decide +kernel) (by rw [c_49]; decide +kernel) (by decide) ?_
                  refine lv_aload_n hx hb dL_law_362 rfl (lv_at hl 1 rfl) ?_
                  refine lv_aload_n hx hb dL_law_363 rfl (lv_at hl 0 rfl) ?_
                  refine lv_iload_n hx hb dL_law_364 rfl (lv_at hl 3 rfl) ?_
                  refine lv_iconst (v := 1) hx hb dL_law_365 (by decide) ?_
                  refine lv_iadd hx hb dL_law_366 ?_
                  obtain ⟨c_50, hf⟩ := gi_e hf
                  refine va_sld hx hb hX hbl hbA hS c_50 dL_law_367 ?_
                  refine lv_aload_n hx hb dL_law_368 rfl (lv_at hl 0 rfl) ?_
                  refine lv_iload_n hx hb dL_law_369 rfl (lv_at hl 3 rfl) ?_
                  refine lv_iconst (v := 2) hx hb dL_law_370 (by decide) ?_
                  refine lv_iadd hx hb dL_law_371 ?_
                  obtain ⟨c_51, hf⟩ := gi_e hf
                  refine va_sld hx hb hX hbl hbA hS c_51 dL_law_372 ?_
                  obtain ⟨a_52, ha_52, hf⟩ := bd_e hf
                  refine Ct.callVg (As := [.int (xs ((q18.1 + (1 : Int32))).toNatClampNeg), .int (xs ((q18.1 + (2 : Int32))).toNatClampNeg)]) (rest := []) (st1 := [.int a_52.1]) ⟨Nat.le_of_ble_eq_true rfl, Nat.le_of_ble_eq_true rfl⟩ (c_X4_sins l D cI A q18.2.1 q18.2.2.1 q18.2.2.2.1 q18.2.2.2.2.1 q18.2.2.2.2.2.1 q18.2.2.2.2.2.2.1 q18.2.2.2.2.2.2.2.1 (xs ((q18.1 + (1 : Int32))).toNatClampNeg) (xs ((q18.1 + (2 : Int32))).toNatClampNeg) a_52 ha_52) hx hb hml hown hts (cwV 2 hts gL_law_X4_sins rfl rfl rfl hd_X4_sins ⟨Nat.le_of_ble_eq_true rfl, Nat.le_of_ble_eq_true rfl⟩) (va_recv hK hP (ci := 4) (q0 := 0) rfl cL_at0) ln_L_X hA hK hP hD hS rfl hl.1 rfl rfl (Nat.le_of_ble_eq_true rfl) dL_law_373 (fun H locs hP hD hS => ?_)
                  replace hP : va_P D vwCl (cL cI A B a_52.2.1 q18.2.2.1 q18.2.2.2.1 q18.2.2.2.2.1 q18.2.2.2.2.2.1 q18.2.2.2.2.2.2.1 a_52.2.2 q18.2.2.2.2.2.2.2.2) H := hP
                  replace hD : va_D (fun q : Nat => s.heap.size ≤ q) (cL cI A B a_52.2.1 q18.2.2.1 q18.2.2.2.1 q18.2.2.2.2.1 q18.2.2.2.2.2.1 q18.2.2.2.2.2.2.1 a_52.2.2 q18.2.2.2.2.2.2.2.2) := hD
                  refine lv_aload_n hx hb dL_law_376 rfl (lv_at hl 2 rfl) ?_
                  refine lv_aload_n hx hb dL_law_377 rfl (lv_at hl 0 rfl) ?_
                  refine lv_iload_n hx hb dL_law_378 rfl (lv_at hl 3 rfl) ?_
                  refine lv_iconst (v := 1) hx hb dL_law_379 (by decide) ?_
                  refine lv_iadd hx hb dL_law_380 ?_
                  obtain ⟨c_53, hf⟩ := gi_e hf
                  refine va_sld hx hb hX hbl hbA hS c_53 dL_law_381 ?_
                  refine lv_aload_n hx hb dL_law_382 rfl (lv_at hl 0 rfl) ?_
                  refine lv_iload_n hx hb dL_law_383 rfl (lv_at hl 3 rfl) ?_
                  refine lv_iconst (v := 2) hx hb dL_law_384 (by decide) ?_
                  refine lv_iadd hx hb dL_law_385 ?_
                  obtain ⟨c_54, hf⟩ := gi_e hf
                  refine va_sld hx hb hX hbl hbA hS c_54 dL_law_386 ?_
                  obtain ⟨a_55, ha_55, hf⟩ := bd_e hf
                  refine Ct.callVg (As := [.int (xs ((q18.1 + (1 : Int32))).toNatClampNeg), .int (xs ((q18.1 + (2 : Int32))).toNatClampNeg)]) (rest := [.int a_52.1]) (st1 := [.int a_55.1, .int a_52.1]) ⟨Nat.le_of_ble_eq_true rfl, Nat.le_of_ble_eq_true rfl⟩ (c_X5_sins l D cI B q18.2.2.2.2.2.2.2.2 (xs ((q18.1 + (1 : Int32))).toNatClampNeg) (xs ((q18.1 + (2 : Int32))).toNatClampNeg) a_55 ha_55) hx hb hml hown hts (cwV 2 hts gL_law_X5_sins rfl rfl rfl hd_X5_sins ⟨Nat.le_of_ble_eq_true rfl, Nat.le_of_ble_eq_true rfl⟩) (va_recv hK hP (ci := 5) (q0 := 34) rfl cL_at34) ln_L_M hA hK hP hD hS rfl hl.1 rfl rfl (Nat.le_of_ble_eq_true rfl) dL_law_387 (fun H locs hP hD hS => ?_)
                  replace hP : va_P D vwCl (cL cI A B a_52.2.1 q18.2.2.1 q18.2.2.2.1 q18.2.2.2.2.1 q18.2.2.2.2.2.1 q18.2.2.2.2.2.2.1 a_52.2.2 a_55.2) H := hP
                  replace hD : va_D (fun q : Nat => s.heap.size ≤ q) (cL cI A B a_52.2.1 q18.2.2.1 q18.2.2.2.1 q18.2.2.2.2.1 q18.2.2.2.2.2.1 q18.2.2.2.2.2.2.1 a_52.2.2 a_55.2) := hD
                  refine lv_icmp_eq (tgt := 1163) hx hb dL_law_390 (by decide) (fun c_56 => ?_) (fun c_56 => ?_)
                  · replace hf := if_t c_56 hf
                    obtain ⟨v_57, ev_57, hf⟩ := nq_e hf
                    refine lv_iinc (v := v_57) (lv' := [(3, .int v_57), (0, .ref b), (1, .ref (A 0)), (2, .ref (B 0))]) hx hb dL_law_1163 hl (k := 3) rfl (by rw [ev_57]; rfl) (by decide) rfl (fun ls hl => ?_)
                    refine lv_goto (tgt := 18) hx hb dL_law_1166 (by decide) ?_
                    exact ih18 (v_57, a_52.2.1, q18.2.2.1, q18.2.2.2.1, q18.2.2.2.2.1, q18.2.2.2.2.2.1, q18.2.2.2.2.2.2.1, a_52.2.2, a_55.2) hf H locs ls hP hD hS (lv_sub hl [1, 2, 3, 0] rfl)
                  · replace hf := if_f c_56 hf
                    refine lv_iconst (v := 0) hx hb dL_law_393 (by decide) ?_
                    exact absurd (Option.some.inj hf) (by decide)
                · replace hf := if_f c_49 hf
                  by_cases c_58 : ((xs (q18.1).toNatClampNeg) &&& (63 : Int32)) = 7
                  · replace hf := if_t c_58 hf
                    refine lv_tableIn (off := 363) (tgt := 395) hx hb dL_law_32 (by rw [c_58]; decide +kernel) (by rw [c_58]; decide +kernel) (by rw [c_58]; decide +kernel) (by decide) ?_
                    refine lv_aload_n hx hb dL_law_395 rfl (lv_at hl 1 rfl) ?_
                    refine lv_aload_n hx hb dL_law_396 rfl (lv_at hl 0 rfl) ?_
                    refine lv_iload_n hx hb dL_law_397 rfl (lv_at hl 3 rfl) ?_
                    refine lv_iconst (v := 1) hx hb dL_law_398 (by decide) ?_
                    refine lv_iadd hx hb dL_law_399 ?_
                    obtain ⟨c_59, hf⟩ := gi_e hf
                    refine va_sld hx hb hX hbl hbA hS c_59 dL_law_400 ?_
                    refine lv_aload_n hx hb dL_law_401 rfl (lv_at hl 0 rfl) ?_
                    refine lv_iload_n hx hb dL_law_402 rfl (lv_at hl 3 rfl) ?_
                    refine lv_iconst (v := 2) hx hb dL_law_403 (by decide) ?_
                    refine lv_iadd hx hb dL_law_404 ?_
                    obtain ⟨c_60, hf⟩ := gi_e hf
                    refine va_sld hx hb hX hbl hbA hS c_60 dL_law_405 ?_
                    obtain ⟨a_61, ha_61, hf⟩ := bd_e hf
                    refine Ct.callVg (As := [.int (xs ((q18.1 + (1 : Int32))).toNatClampNeg), .int (xs ((q18.1 + (2 : Int32))).toNatClampNeg)]) (rest := []) (st1 := [.int a_61.1]) ⟨Nat.le_of_ble_eq_true rfl, Nat.le_of_ble_eq_true rfl⟩ (c_X4_loads l D cI A q18.2.1 q18.2.2.1 q18.2.2.2.1 q18.2.2.2.2.1 q18.2.2.2.2.2.1 q18.2.2.2.2.2.2.1 q18.2.2.2.2.2.2.2.1 (xs ((q18.1 + (1 : Int32))).toNatClampNeg) (xs ((q18.1 + (2 : Int32))).toNatClampNeg) a_61 ha_61) hx hb hml hown hts (cwV 2 hts gL_law_X4_loads rfl rfl rfl hd_X4_loads ⟨Nat.le_of_ble_eq_true rfl, Nat.le_of_ble_eq_true rfl⟩) (va_recv hK hP (ci := 4) (q0 := 0) rfl cL_at0) ln_L_X hA hK hP hD hS rfl hl.1 rfl rfl (Nat.le_of_ble_eq_true rfl) dL_law_406 (fun H locs hP hD hS => ?_)
                    replace hP : va_P D vwCl (cL cI A B a_61.2.1 q18.2.2.1 q18.2.2.2.1 q18.2.2.2.2.1 q18.2.2.2.2.2.1 q18.2.2.2.2.2.2.1 a_61.2.2 q18.2.2.2.2.2.2.2.2) H := hP
                    replace hD : va_D (fun q : Nat => s.heap.size ≤ q) (cL cI A B a_61.2.1 q18.2.2.1 q18.2.2.2.1 q18.2.2.2.2.1 q18.2.2.2.2.2.1 q18.2.2.2.2.2.2.1 a_61.2.2 q18.2.2.2.2.2.2.2.2) := hD
                    refine lv_aload_n hx hb dL_law_409 rfl (lv_at hl 2 rfl) ?_
                    refine lv_aload_n hx hb dL_law_410 rfl (lv_at hl 0 rfl) ?_
                    refine lv_iload_n hx hb dL_law_411 rfl (lv_at hl 3 rfl) ?_
                    refine lv_iconst (v := 1) hx hb dL_law_412 (by decide) ?_
                    refine lv_iadd hx hb dL_law_413 ?_
                    obtain ⟨c_62, hf⟩ := gi_e hf
                    refine va_sld hx hb hX hbl hbA hS c_62 dL_law_414 ?_
                    refine lv_aload_n hx hb dL_law_415 rfl (lv_at hl 0 rfl) ?_
                    refine lv_iload_n hx hb dL_law_416 rfl (lv_at hl 3 rfl) ?_
                    refine lv_iconst (v := 2) hx hb dL_law_417 (by decide) ?_
                    refine lv_iadd hx hb dL_law_418 ?_
                    obtain ⟨c_63, hf⟩ := gi_e hf
                    refine va_sld hx hb hX hbl hbA hS c_63 dL_law_419 ?_
                    obtain ⟨a_64, ha_64, hf⟩ := bd_e hf
                    refine Ct.callVg (As := [.int (xs ((q18.1 + (1 : Int32))).toNatClampNeg), .int (xs ((q18.1 + (2 : Int32))).toNatClampNeg)]) (rest := [.int a_61.1]) (st1 := [.int a_64.1, .int a_61.1]) ⟨Nat.le_of_ble_eq_true rfl, Nat.le_of_ble_eq_true rfl⟩ (c_X5_loads l D cI B q18.2.2.2.2.2.2.2.2 (xs ((q18.1 + (1 : Int32))).toNatClampNeg) (xs ((q18.1 + (2 : Int32))).toNatClampNeg) a_64 ha_64) hx hb hml hown hts (cwV 2 hts gL_law_X5_loads rfl rfl rfl hd_X5_loads ⟨Nat.le_of_ble_eq_true rfl, Nat.le_of_ble_eq_true rfl⟩) (va_recv hK hP (ci := 5) (q0 := 34) rfl cL_at34) ln_L_M hA hK hP hD hS rfl hl.1 rfl rfl (Nat.le_of_ble_eq_true rfl) dL_law_420 (fun H locs hP hD hS => ?_)
                    replace hP : va_P D vwCl (cL cI A B a_61.2.1 q18.2.2.1 q18.2.2.2.1 q18.2.2.2.2.1 q18.2.2.2.2.2.1 q18.2.2.2.2.2.2.1 a_61.2.2 a_64.2) H := hP
                    replace hD : va_D (fun q : Nat => s.heap.size ≤ q) (cL cI A B a_61.2.1 q18.2.2.1 q18.2.2.2.1 q18.2.2.2.2.1 q18.2.2.2.2.2.1 q18.2.2.2.2.2.2.1 a_61.2.2 a_64.2) := hD
                    refine lv_icmp_eq (tgt := 1163) hx hb dL_law_423 (by decide) (fun c_65 => ?_) (fun c_65 => ?_)
                    · replace hf := if_t c_65 hf
                      obtain ⟨v_66, ev_66, hf⟩ := nq_e hf
                      refine lv_iinc (v := v_66) (lv' := [(3, .int v_66), (0, .ref b), (1, .ref (A 0)), (2, .ref (B 0))]) hx hb dL_law_1163 hl (k := 3) rfl (by rw [ev_66]; rfl) (by decide) rfl (fun ls hl => ?_)
                      refine lv_goto (tgt := 18) hx hb dL_law_1166 (by decide) ?_
                      exact ih18 (v_66, a_61.2.1, q18.2.2.1, q18.2.2.2.1, q18.2.2.2.2.1, q18.2.2.2.2.2.1, q18.2.2.2.2.2.2.1, a_61.2.2, a_64.2) hf H locs ls hP hD hS (lv_sub hl [1, 2, 3, 0] rfl)
                    · replace hf := if_f c_65 hf
                      refine lv_iconst (v := 0) hx hb dL_law_426 (by decide) ?_
                      exact absurd (Option.some.inj hf) (by decide)
                  · replace hf := if_f c_58 hf
                    by_cases c_67 : ((xs (q18.1).toNatClampNeg) &&& (63 : Int32)) = 8
                    · replace hf := if_t c_67 hf
                      refine lv_tableIn (off := 396) (tgt := 428) hx hb dL_law_32 (by rw [c_67]; decide +kernel) (by rw [c_67]; decide +kernel) (by rw [c_67]; decide +kernel) (by decide) ?_
                      refine lv_aload_n hx hb dL_law_428 rfl (lv_at hl 1 rfl) ?_
                      refine lv_aload_n hx hb dL_law_429 rfl (lv_at hl 0 rfl) ?_
                      refine lv_iload_n hx hb dL_law_430 rfl (lv_at hl 3 rfl) ?_
                      refine lv_iconst (v := 1) hx hb dL_law_431 (by decide) ?_
                      refine lv_iadd hx hb dL_law_432 ?_
                      obtain ⟨c_68, hf⟩ := gi_e hf
                      refine va_sld hx hb hX hbl hbA hS c_68 dL_law_433 ?_
                      refine lv_aload_n hx hb dL_law_434 rfl (lv_at hl 0 rfl) ?_
                      refine lv_iload_n hx hb dL_law_435 rfl (lv_at hl 3 rfl) ?_
                      refine lv_iconst (v := 2) hx hb dL_law_436 (by decide) ?_
                      refine lv_iadd hx hb dL_law_437 ?_
                      obtain ⟨c_69, hf⟩ := gi_e hf
                      refine va_sld hx hb hX hbl hbA hS c_69 dL_law_438 ?_
                      refine lv_aload_n hx hb dL_law_439 rfl (lv_at hl 0 rfl) ?_
                      refine lv_iload_n hx hb dL_law_440 rfl (lv_at hl 3 rfl) ?_
                      refine lv_iconst (v := 3) hx hb dL_law_441 (by decide) ?_
                      refine lv_iadd hx hb dL_law_442 ?_
                      obtain ⟨c_70, hf⟩ := gi_e hf
                      refine va_sld hx hb hX hbl hbA hS c_70 dL_law_443 ?_
                      obtain ⟨a_71, ha_71, hf⟩ := bd_e hf
                      refine Ct.callVg (As := [.int (xs ((q18.1 + (1 : Int32))).toNatClampNeg), .int (xs ((q18.1 + (2 : Int32))).toNatClampNeg), .int (xs ((q18.1 + (3 : Int32))).toNatClampNeg)]) (rest := []) (st1 := [.int a_71.1]) ⟨Nat.le_of_ble_eq_true rfl, Nat.le_of_ble_eq_true rfl⟩ (c_X4_turn l D cI A q18.2.1 q18.2.2.1 q18.2.2.2.1 q18.2.2.2.2.1 q18.2.2.2.2.2.1 q18.2.2.2.2.2.2.1 q18.2.2.2.2.2.2.2.1 (xs ((q18.1 + (1 : Int32))).toNatClampNeg) (xs ((q18.1 + (2 : Int32))).toNatClampNeg) (xs ((q18.1 + (3 : Int32))).toNatClampNeg) a_71 ha_71) hx hb hml hown hts (cwV 3 hts gL_law_X4_turn rfl rfl rfl hd_X4_turn ⟨Nat.le_of_ble_eq_true rfl, Nat.le_of_ble_eq_true rfl⟩) (va_recv hK hP (ci := 4) (q0 := 0) rfl cL_at0) ln_L_X hA hK hP hD hS rfl hl.1 rfl rfl (Nat.le_of_ble_eq_true rfl) dL_law_444 (fun H locs hP hD hS => ?_)
                      replace hP : va_P D vwCl (cL cI A B a_71.2.1 q18.2.2.1 q18.2.2.2.1 q18.2.2.2.2.1 q18.2.2.2.2.2.1 q18.2.2.2.2.2.2.1 a_71.2.2 q18.2.2.2.2.2.2.2.2) H := hP
                      replace hD : va_D (fun q : Nat => s.heap.size ≤ q) (cL cI A B a_71.2.1 q18.2.2.1 q18.2.2.2.1 q18.2.2.2.2.1 q18.2.2.2.2.2.1 q18.2.2.2.2.2.2.1 a_71.2.2 q18.2.2.2.2.2.2.2.2) := hD
                      refine lv_aload_n hx hb dL_law_447 rfl (lv_at hl 2 rfl) ?_
                      refine lv_aload_n hx hb dL_law_448 rfl (lv_at hl 0 rfl) ?_
                      refine lv_iload_n hx hb dL_law_449 rfl (lv_at hl 3 rfl) ?_
                      refine lv_iconst (v := 1) hx hb dL_law_450 (by decide) ?_
                      refine lv_iadd hx hb dL_law_451 ?_
                      obtain ⟨c_72, hf⟩ := gi_e hf
                      refine va_sld hx hb hX hbl hbA hS c_72 dL_law_452 ?_
                      refine lv_aload_n hx hb dL_law_453 rfl (lv_at hl 0 rfl) ?_
                      refine lv_iload_n hx hb dL_law_454 rfl (lv_at hl 3 rfl) ?_
                      refine lv_iconst (v := 2) hx hb dL_law_455 (by decide) ?_
                      refine lv_iadd hx hb dL_law_456 ?_
                      obtain ⟨c_73, hf⟩ := gi_e hf
                      refine va_sld hx hb hX hbl hbA hS c_73 dL_law_457 ?_
                      refine lv_aload_n hx hb dL_law_458 rfl (lv_at hl 0 rfl) ?_
                      refine lv_iload_n hx hb dL_law_459 rfl (lv_at hl 3 rfl) ?_
                      refine lv_iconst (v := 3) hx hb dL_law_460 (by decide) ?_
                      refine lv_iadd hx hb dL_law_461 ?_
                      obtain ⟨c_74, hf⟩ := gi_e hf
                      refine va_sld hx hb hX hbl hbA hS c_74 dL_law_462 ?_
                      obtain ⟨a_75, ha_75, hf⟩ := bd_e hf
                      refine Ct.callVg (As := [.int (xs ((q18.1 + (1 : Int32))).toNatClampNeg), .int (xs ((q18.1 + (2 : Int32))).toNatClampNeg), .int (xs ((q18.1 + (3 : Int32))).toNatClampNeg)]) (rest := [.int a_71.1]) (st1 := [.int a_75.1, .int a_71.1]) ⟨Nat.le_of_ble_eq_true rfl, Nat.le_of_ble_eq_true rfl⟩ (c_X5_turn l D cI B q18.2.2.2.2.2.2.2.2 (xs ((q18.1 + (1 : Int32))).toNatClampNeg) (xs ((q18.1 + (2 : Int32))).toNatClampNeg) (xs ((q18.1 + (3 : Int32))).toNatClampNeg) a_75 ha_75) hx hb hml hown hts (cwV 3 hts gL_law_X5_turn rfl rfl rfl hd_X5_turn ⟨Nat.le_of_ble_eq_true rfl, Nat.le_of_ble_eq_true rfl⟩) (va_recv hK hP (ci := 5) (q0 := 34) rfl cL_at34) ln_L_M hA hK hP hD hS rfl hl.1 rfl rfl (Nat.le_of_ble_eq_true rfl) dL_law_463 (fun H locs hP hD hS => ?_)
                      replace hP : va_P D vwCl (cL cI A B a_71.2.1 q18.2.2.1 q18.2.2.2.1 q18.2.2.2.2.1 q18.2.2.2.2.2.1 q18.2.2.2.2.2.2.1 a_71.2.2 a_75.2) H := hP
                      replace hD : va_D (fun q : Nat => s.heap.size ≤ q) (cL cI A B a_71.2.1 q18.2.2.1 q18.2.2.2.1 q18.2.2.2.2.1 q18.2.2.2.2.2.1 q18.2.2.2.2.2.2.1 a_71.2.2 a_75.2) := hD
                      refine lv_icmp_eq (tgt := 1163) hx hb dL_law_466 (by decide) (fun c_76 => ?_) (fun c_76 => ?_)
                      · replace hf := if_t c_76 hf
                        obtain ⟨v_77, ev_77, hf⟩ := nq_e hf
                        refine lv_iinc (v := v_77) (lv' := [(3, .int v_77), (0, .ref b), (1, .ref (A 0)), (2, .ref (B 0))]) hx hb dL_law_1163 hl (k := 3) rfl (by rw [ev_77]; rfl) (by decide) rfl (fun ls hl => ?_)
                        refine lv_goto (tgt := 18) hx hb dL_law_1166 (by decide) ?_
                        exact ih18 (v_77, a_71.2.1, q18.2.2.1, q18.2.2.2.1, q18.2.2.2.2.1, q18.2.2.2.2.2.1, q18.2.2.2.2.2.2.1, a_71.2.2, a_75.2) hf H locs ls hP hD hS (lv_sub hl [1, 2, 3, 0] rfl)
                      · replace hf := if_f c_76 hf
                        refine lv_iconst (v := 0) hx hb dL_law_469 (by decide) ?_
                        exact absurd (Option.some.inj hf) (by decide)
                    · replace hf := if_f c_67 hf
                      by_cases c_78 : ((xs (q18.1).toNatClampNeg) &&& (63 : Int32)) = 9
                      · replace hf := if_t c_78 hf
                        refine lv_tableIn (off := 439) (tgt := 471) hx hb dL_law_32 (by rw [c_78]; decide +kernel) (by rw [c_78]; decide +kernel) (by rw [c_78]; decide +kernel) (by decide) ?_
                        refine lv_aload_n hx hb dL_law_471 rfl (lv_at hl 1 rfl) ?_
                        refine lv_aload_n hx hb dL_law_472 rfl (lv_at hl 0 rfl) ?_
                        refine lv_iload_n hx hb dL_law_473 rfl (lv_at hl 3 rfl) ?_
                        refine lv_iconst (v := 1) hx hb dL_law_474 (by decide) ?_
                        refine lv_iadd hx hb dL_law_475 ?_
                        obtain ⟨c_79, hf⟩ := gi_e hf
                        refine va_sld hx hb hX hbl hbA hS c_79 dL_law_476 ?_
                        obtain ⟨a_80, ha_80, hf⟩ := bd_e hf
                        refine Ct.callVg (As := [.int (xs ((q18.1 + (1 : Int32))).toNatClampNeg)]) (rest := []) (st1 := [.int a_80.1]) ⟨Nat.le_of_ble_eq_true rfl, Nat.le_of_ble_eq_true rfl⟩ (c_X4_tides l D cI A q18.2.1 q18.2.2.1 q18.2.2.2.1 q18.2.2.2.2.1 q18.2.2.2.2.2.1 q18.2.2.2.2.2.2.1 q18.2.2.2.2.2.2.2.1 (xs ((q18.1 + (1 : Int32))).toNatClampNeg) a_80 ha_80) hx hb hml hown hts (cwV 1 hts gL_law_X4_tides rfl rfl rfl hd_X4_tides ⟨Nat.le_of_ble_eq_true rfl, Nat.le_of_ble_eq_true rfl⟩) (va_recv hK hP (ci := 4) (q0 := 0) rfl cL_at0) ln_L_X hA hK hP hD hS rfl hl.1 rfl rfl (Nat.le_of_ble_eq_true rfl) dL_law_477 (fun H locs hP hD hS => ?_)
                        replace hP : va_P D vwCl (cL cI A B a_80.2.1 q18.2.2.1 q18.2.2.2.1 q18.2.2.2.2.1 q18.2.2.2.2.2.1 q18.2.2.2.2.2.2.1 a_80.2.2 q18.2.2.2.2.2.2.2.2) H := hP
                        replace hD : va_D (fun q : Nat => s.heap.size ≤ q) (cL cI A B a_80.2.1 q18.2.2.1 q18.2.2.2.1 q18.2.2.2.2.1 q18.2.2.2.2.2.1 q18.2.2.2.2.2.2.1 a_80.2.2 q18.2.2.2.2.2.2.2.2) := hD
                        refine lv_aload_n hx hb dL_law_480 rfl (lv_at hl 2 rfl) ?_
                        refine lv_aload_n hx hb dL_law_481 rfl (lv_at hl 0 rfl) ?_
                        refine lv_iload_n hx hb dL_law_482 rfl (lv_at hl 3 rfl) ?_
                        refine lv_iconst (v := 1) hx hb dL_law_483 (by decide) ?_
                        refine lv_iadd hx hb dL_law_484 ?_
                        obtain ⟨c_81, hf⟩ := gi_e hf
                        refine va_sld hx hb hX hbl hbA hS c_81 dL_law_485 ?_
                        obtain ⟨a_82, ha_82, hf⟩ := bd_e hf
                        refine Ct.callVg (As := [.int (xs ((q18.1 + (1 : Int32))).toNatClampNeg)]) (rest := [.int a_80.1]) (st1 := [.int a_82.1, .int a_80.1]) ⟨Nat.le_of_ble_eq_true rfl, Nat.le_of_ble_eq_true rfl⟩ (c_X5_tides l D cI B q18.2.2.2.2.2.2.2.2 (xs ((q18.1 + (1 : Int32))).toNatClampNeg) a_82 ha_82) hx hb hml hown hts (cwV 1 hts gL_law_X5_tides rfl rfl rfl hd_X5_tides ⟨Nat.le_of_ble_eq_true rfl, Nat.le_of_ble_eq_true rfl⟩) (va_recv hK hP (ci := 5) (q0 := 34) rfl cL_at34) ln_L_M hA hK hP hD hS rfl hl.1 rfl rfl (Nat.le_of_ble_eq_true rfl) dL_law_486 (fun H locs hP hD hS => ?_)
                        replace hP : va_P D vwCl (cL cI A B a_80.2.1 q18.2.2.1 q18.2.2.2.1 q18.2.2.2.2.1 q18.2.2.2.2.2.1 q18.2.2.2.2.2.2.1 a_80.2.2 a_82.2) H := hP
                        replace hD : va_D (fun q : Nat => s.heap.size ≤ q) (cL cI A B a_80.2.1 q18.2.2.1 q18.2.2.2.1 q18.2.2.2.2.1 q18.2.2.2.2.2.1 q18.2.2.2.2.2.2.1 a_80.2.2 a_82.2) := hD
                        refine lv_icmp_eq (tgt := 1163) hx hb dL_law_489 (by decide) (fun c_83 => ?_) (fun c_83 => ?_)
                        · replace hf := if_t c_83 hf
                          obtain ⟨v_84, ev_84, hf⟩ := nq_e hf
                          refine lv_iinc (v := v_84) (lv' := [(3, .int v_84), (0, .ref b), (1, .ref (A 0)), (2, .ref (B 0))]) hx hb dL_law_1163 hl (k := 3) rfl (by rw [ev_84]; rfl) (by decide) rfl (fun ls hl => ?_)
                          refine lv_goto (tgt := 18) hx hb dL_law_1166 (by decide) ?_
                          exact ih18 (v_84, a_80.2.1, q18.2.2.1, q18.2.2.2.1, q18.2.2.2.2.1, q18.2.2.2.2.2.1, q18.2.2.2.2.2.2.1, a_80.2.2, a_82.2) hf H locs ls hP hD hS (lv_sub hl [1, 2, 3, 0] rfl)
                        · replace hf := if_f c_83 hf
                          refine lv_iconst (v := 0) hx hb dL_law_492 (by decide) ?_
                          exact absurd (Option.some.inj hf) (by decide)
                      · replace hf := if_f c_78 hf
                        by_cases c_85 : ((xs (q18.1).toNatClampNeg) &&& (63 : Int32)) = 10
                        · replace hf := if_t c_85 hf
                          refine lv_tableIn (off := 462) (tgt := 494) hx hb dL_law_32 (by rw [c_85]; decide +kernel) (by rw [c_85]; decide +kernel) (by rw [c_85]; decide +kernel) (by decide) ?_
                          refine lv_aload_n hx hb dL_law_494 rfl (lv_at hl 1 rfl) ?_
                          refine lv_aload_n hx hb dL_law_495 rfl (lv_at hl 0 rfl) ?_
                          refine lv_iload_n hx hb dL_law_496 rfl (lv_at hl 3 rfl) ?_
                          refine lv_iconst (v := 1) hx hb dL_law_497 (by decide) ?_
                          refine lv_iadd hx hb dL_law_498 ?_
                          obtain ⟨c_86, hf⟩ := gi_e hf
                          refine va_sld hx hb hX hbl hbA hS c_86 dL_law_499 ?_
                          refine lv_aload_n hx hb dL_law_500 rfl (lv_at hl 0 rfl) ?_
                          refine lv_iload_n hx hb dL_law_501 rfl (lv_at hl 3 rfl) ?_
                          refine lv_iconst (v := 2) hx hb dL_law_502 (by decide) ?_
                          refine lv_iadd hx hb dL_law_503 ?_
                          obtain ⟨c_87, hf⟩ := gi_e hf
                          refine va_sld hx hb hX hbl hbA hS c_87 dL_law_504 ?_
                          refine lv_aload_n hx hb dL_law_505 rfl (lv_at hl 0 rfl) ?_
                          refine lv_iload_n hx hb dL_law_506 rfl (lv_at hl 3 rfl) ?_
                          refine lv_iconst (v := 3) hx hb dL_law_507 (by decide) ?_
                          refine lv_iadd hx hb dL_law_508 ?_
                          obtain ⟨c_88, hf⟩ := gi_e hf
                          refine va_sld hx hb hX hbl hbA hS c_88 dL_law_509 ?_
                          obtain ⟨a_89, ha_89, hf⟩ := bd_e hf
                          refine Ct.callVg (As := [.int (xs ((q18.1 + (1 : Int32))).toNatClampNeg), .int (xs ((q18.1 + (2 : Int32))).toNatClampNeg), .int (xs ((q18.1 + (3 : Int32))).toNatClampNeg)]) (rest := []) (st1 := [.int a_89.1]) ⟨Nat.le_of_ble_eq_true rfl, Nat.le_of_ble_eq_true rfl⟩ (c_X4_shipThen l D cI A q18.2.1 q18.2.2.1 q18.2.2.2.1 q18.2.2.2.2.1 q18.2.2.2.2.2.1 q18.2.2.2.2.2.2.1 q18.2.2.2.2.2.2.2.1 (xs ((q18.1 + (1 : Int32))).toNatClampNeg) (xs ((q18.1 + (2 : Int32))).toNatClampNeg) (xs ((q18.1 + (3 : Int32))).toNatClampNeg) a_89 ha_89) hx hb hml hown hts (cwV 3 hts gL_law_X4_shipThen rfl rfl rfl hd_X4_shipThen ⟨Nat.le_of_ble_eq_true rfl, Nat.le_of_ble_eq_true rfl⟩) (va_recv hK hP (ci := 4) (q0 := 0) rfl cL_at0) ln_L_X hA hK hP hD hS rfl hl.1 rfl rfl (Nat.le_of_ble_eq_true rfl) dL_law_510 (fun H locs hP hD hS => ?_)
                          replace hP : va_P D vwCl (cL cI A B q18.2.1 a_89.2.1 q18.2.2.2.1 q18.2.2.2.2.1 q18.2.2.2.2.2.1 q18.2.2.2.2.2.2.1 a_89.2.2 q18.2.2.2.2.2.2.2.2) H := hP
                          replace hD : va_D (fun q : Nat => s.heap.size ≤ q) (cL cI A B q18.2.1 a_89.2.1 q18.2.2.2.1 q18.2.2.2.2.1 q18.2.2.2.2.2.1 q18.2.2.2.2.2.2.1 a_89.2.2 q18.2.2.2.2.2.2.2.2) := hD
                          refine lv_aload_n hx hb dL_law_513 rfl (lv_at hl 2 rfl) ?_
                          refine lv_aload_n hx hb dL_law_514 rfl (lv_at hl 0 rfl) ?_
                          refine lv_iload_n hx hb dL_law_515 rfl (lv_at hl 3 rfl) ?_
                          refine lv_iconst (v := 1) hx hb dL_law_516 (by decide) ?_
                          refine lv_iadd hx hb dL_law_517 ?_
                          obtain ⟨c_90, hf⟩ := gi_e hf
                          refine va_sld hx hb hX hbl hbA hS c_90 dL_law_518 ?_
                          refine lv_aload_n hx hb dL_law_519 rfl (lv_at hl 0 rfl) ?_
                          refine lv_iload_n hx hb dL_law_520 rfl (lv_at hl 3 rfl) ?_
                          refine lv_iconst (v := 2) hx hb dL_law_521 (by decide) ?_
                          refine lv_iadd hx hb dL_law_522 ?_
                          obtain ⟨c_91, hf⟩ := gi_e hf
                          refine va_sld hx hb hX hbl hbA hS c_91 dL_law_523 ?_
                          refine lv_aload_n hx hb dL_law_524 rfl (lv_at hl 0 rfl) ?_
                          refine lv_iload_n hx hb dL_law_525 rfl (lv_at hl 3 rfl) ?_
                          refine lv_iconst (v := 3) hx hb dL_law_526 (by decide) ?_
                          refine lv_iadd hx hb dL_law_527 ?_
                          obtain ⟨c_92, hf⟩ := gi_e hf
                          refine va_sld hx hb hX hbl hbA hS c_92 dL_law_528 ?_
                          obtain ⟨a_93, ha_93, hf⟩ := bd_e hf
                          refine Ct.callVg (As := [.int (xs ((q18.1 + (1 : Int32))).toNatClampNeg), .int (xs ((q18.1 + (2 : Int32))).toNatClampNeg), .int (xs ((q18.1 + (3 : Int32))).toNatClampNeg)]) (rest := [.int a_89.1]) (st1 := [.int a_93.1, .int a_89.1]) ⟨Nat.le_of_ble_eq_true rfl, Nat.le_of_ble_eq_true rfl⟩ (c_X5_shipThen l D cI B q18.2.2.2.2.2.2.2.2 (xs ((q18.1 + (1 : Int32))).toNatClampNeg) (xs ((q18.1 + (2 : Int32))).toNatClampNeg) (xs ((q18.1 + (3 : Int32))).toNatClampNeg) a_93 ha_93) hx hb hml hown hts (cwV 3 hts gL_law_X5_shipThen rfl rfl rfl hd_X5_shipThen ⟨Nat.le_of_ble_eq_true rfl, Nat.le_of_ble_eq_true rfl⟩) (va_recv hK hP (ci := 5) (q0 := 34) rfl cL_at34) ln_L_M hA hK hP hD hS rfl hl.1 rfl rfl (Nat.le_of_ble_eq_true rfl) dL_law_529 (fun H locs hP hD hS => ?_)
                          replace hP : va_P D vwCl (cL cI A B q18.2.1 a_89.2.1 q18.2.2.2.1 q18.2.2.2.2.1 q18.2.2.2.2.2.1 q18.2.2.2.2.2.2.1 a_89.2.2 a_93.2) H := hP
                          replace hD : va_D (fun q : Nat => s.heap.size ≤ q) (cL cI A B q18.2.1 a_89.2.1 q18.2.2.2.1 q18.2.2.2.2.1 q18.2.2.2.2.2.1 q18.2.2.2.2.2.2.1 a_89.2.2 a_93.2) := hD
                          refine lv_icmp_eq (tgt := 1163) hx hb dL_law_532 (by decide) (fun c_94 => ?_) (fun c_94 => ?_)
                          · replace hf := if_t c_94 hf
                            obtain ⟨v_95, ev_95, hf⟩ := nq_e hf
                            refine lv_iinc (v := v_95) (lv' := [(3, .int v_95), (0, .ref b), (1, .ref (A 0)), (2, .ref (B 0))]) hx hb dL_law_1163 hl (k := 3) rfl (by rw [ev_95]; rfl) (by decide) rfl (fun ls hl => ?_)
                            refine lv_goto (tgt := 18) hx hb dL_law_1166 (by decide) ?_
                            exact ih18 (v_95, q18.2.1, a_89.2.1, q18.2.2.2.1, q18.2.2.2.2.1, q18.2.2.2.2.2.1, q18.2.2.2.2.2.2.1, a_89.2.2, a_93.2) hf H locs ls hP hD hS (lv_sub hl [1, 2, 3, 0] rfl)
                          · replace hf := if_f c_94 hf
                            refine lv_iconst (v := 0) hx hb dL_law_535 (by decide) ?_
                            exact absurd (Option.some.inj hf) (by decide)
                        · replace hf := if_f c_85 hf
                          by_cases c_96 : ((xs (q18.1).toNatClampNeg) &&& (63 : Int32)) = 11
                          · replace hf := if_t c_96 hf
                            refine lv_tableIn (off := 505) (tgt := 537) hx hb dL_law_32 (by rw [c_96]; decide +kernel) (by rw [c_96]; decide +kernel) (by rw [c_96]; decide +kernel) (by decide) ?_
                            refine lv_aload_n hx hb dL_law_537 rfl (lv_at hl 1 rfl) ?_
                            refine lv_aload_n hx hb dL_law_538 rfl (lv_at hl 0 rfl) ?_
                            refine lv_iload_n hx hb dL_law_539 rfl (lv_at hl 3 rfl) ?_
                            refine lv_iconst (v := 1) hx hb dL_law_540 (by decide) ?_
                            refine lv_iadd hx hb dL_law_541 ?_
                            obtain ⟨c_97, hf⟩ := gi_e hf
                            refine va_sld hx hb hX hbl hbA hS c_97 dL_law_542 ?_
                            refine lv_aload_n hx hb dL_law_543 rfl (lv_at hl 0 rfl) ?_
                            refine lv_iload_n hx hb dL_law_544 rfl (lv_at hl 3 rfl) ?_
                            refine lv_iconst (v := 2) hx hb dL_law_545 (by decide) ?_
                            refine lv_iadd hx hb dL_law_546 ?_
                            obtain ⟨c_98, hf⟩ := gi_e hf
                            refine va_sld hx hb hX hbl hbA hS c_98 dL_law_547 ?_
                            obtain ⟨a_99, ha_99, hf⟩ := bd_e hf
                            refine Ct.callVg (As := [.int (xs ((q18.1 + (1 : Int32))).toNatClampNeg), .int (xs ((q18.1 + (2 : Int32))).toNatClampNeg)]) (rest := []) (st1 := [.int a_99.1]) ⟨Nat.le_of_ble_eq_true rfl, Nat.le_of_ble_eq_true rfl⟩ (c_X4_sinsThen l D cI A q18.2.1 q18.2.2.1 q18.2.2.2.1 q18.2.2.2.2.1 q18.2.2.2.2.2.1 q18.2.2.2.2.2.2.1 q18.2.2.2.2.2.2.2.1 (xs ((q18.1 + (1 : Int32))).toNatClampNeg) (xs ((q18.1 + (2 : Int32))).toNatClampNeg) a_99 ha_99) hx hb hml hown hts (cwV 2 hts gL_law_X4_sinsThen rfl rfl rfl hd_X4_sinsThen ⟨Nat.le_of_ble_eq_true rfl, Nat.le_of_ble_eq_true rfl⟩) (va_recv hK hP (ci := 4) (q0 := 0) rfl cL_at0) ln_L_X hA hK hP hD hS rfl hl.1 rfl rfl (Nat.le_of_ble_eq_true rfl) dL_law_548 (fun H locs hP hD hS => ?_)
                            replace hP : va_P D vwCl (cL cI A B q18.2.1 a_99.2.1 q18.2.2.2.1 q18.2.2.2.2.1 q18.2.2.2.2.2.1 q18.2.2.2.2.2.2.1 a_99.2.2 q18.2.2.2.2.2.2.2.2) H := hP
                            replace hD : va_D (fun q : Nat => s.heap.size ≤ q) (cL cI A B q18.2.1 a_99.2.1 q18.2.2.2.1 q18.2.2.2.2.1 q18.2.2.2.2.2.1 q18.2.2.2.2.2.2.1 a_99.2.2 q18.2.2.2.2.2.2.2.2) := hD
                            refine lv_aload_n hx hb dL_law_551 rfl (lv_at hl 2 rfl) ?_
                            refine lv_aload_n hx hb dL_law_552 rfl (lv_at hl 0 rfl) ?_
                            refine lv_iload_n hx hb dL_law_553 rfl (lv_at hl 3 rfl) ?_
                            refine lv_iconst (v := 1) hx hb dL_law_554 (by decide) ?_
                            refine lv_iadd hx hb dL_law_555 ?_
                            obtain ⟨c_100, hf⟩ := gi_e hf
                            refine va_sld hx hb hX hbl hbA hS c_100 dL_law_556 ?_
                            refine lv_aload_n hx hb dL_law_557 rfl (lv_at hl 0 rfl) ?_
                            refine lv_iload_n hx hb dL_law_558 rfl (lv_at hl 3 rfl) ?_
                            refine lv_iconst (v := 2) hx hb dL_law_559 (by decide) ?_
                            refine lv_iadd hx hb dL_law_560 ?_
                            obtain ⟨c_101, hf⟩ := gi_e hf
                            refine va_sld hx hb hX hbl hbA hS c_101 dL_law_561 ?_
                            obtain ⟨a_102, ha_102, hf⟩ := bd_e hf
                            refine Ct.callVg (As := [.int (xs ((q18.1 + (1 : Int32))).toNatClampNeg), .int (xs ((q18.1 + (2 : Int32))).toNatClampNeg)]) (rest := [.int a_99.1]) (st1 := [.int a_102.1, .int a_99.1]) ⟨Nat.le_of_ble_eq_true rfl, Nat.le_of_ble_eq_true rfl⟩ (c_X5_sinsThen l D cI B q18.2.2.2.2.2.2.2.2 (xs ((q18.1 + (1 : Int32))).toNatClampNeg) (xs ((q18.1 + (2 : Int32))).toNatClampNeg) a_102 ha_102) hx hb hml hown hts (cwV 2 hts gL_law_X5_sinsThen rfl rfl rfl hd_X5_sinsThen ⟨Nat.le_of_ble_eq_true rfl, Nat.le_of_ble_eq_true rfl⟩) (va_recv hK hP (ci := 5) (q0 := 34) rfl cL_at34) ln_L_M hA hK hP hD hS rfl hl.1 rfl rfl (Nat.le_of_ble_eq_true rfl) dL_law_562 (fun H locs hP hD hS => ?_)
                            replace hP : va_P D vwCl (cL cI A B q18.2.1 a_99.2.1 q18.2.2.2.1 q18.2.2.2.2.1 q18.2.2.2.2.2.1 q18.2.2.2.2.2.2.1 a_99.2.2 a_102.2) H := hP
                            replace hD : va_D (fun q : Nat => s.heap.size ≤ q) (cL cI A B q18.2.1 a_99.2.1 q18.2.2.2.1 q18.2.2.2.2.1 q18.2.2.2.2.2.1 q18.2.2.2.2.2.2.1 a_99.2.2 a_102.2) := hD
                            refine lv_icmp_eq (tgt := 1163) hx hb dL_law_565 (by decide) (fun c_103 => ?_) (fun c_103 => ?_)
                            · replace hf := if_t c_103 hf
                              obtain ⟨v_104, ev_104, hf⟩ := nq_e hf
                              refine lv_iinc (v := v_104) (lv' := [(3, .int v_104), (0, .ref b), (1, .ref (A 0)), (2, .ref (B 0))]) hx hb dL_law_1163 hl (k := 3) rfl (by rw [ev_104]; rfl) (by decide) rfl (fun ls hl => ?_)
                              refine lv_goto (tgt := 18) hx hb dL_law_1166 (by decide) ?_
                              exact ih18 (v_104, q18.2.1, a_99.2.1, q18.2.2.2.1, q18.2.2.2.2.1, q18.2.2.2.2.2.1, q18.2.2.2.2.2.2.1, a_99.2.2, a_102.2) hf H locs ls hP hD hS (lv_sub hl [1, 2, 3, 0] rfl)
                            · replace hf := if_f c_103 hf
                              refine lv_iconst (v := 0) hx hb dL_law_568 (by decide) ?_
                              exact absurd (Option.some.inj hf) (by decide)
                          · replace hf := if_f c_96 hf
                            by_cases c_105 : ((xs (q18.1).toNatClampNeg) &&& (63 : Int32)) = 12
                            · replace hf := if_t c_105 hf
                              refine lv_tableIn (off := 538) (tgt := 570) hx hb dL_law_32 (by rw [c_105]; decide +kernel) (by rw [c_105]; decide +kernel) (by rw [c_105]; decide +kernel) (by decide) ?_
                              refine lv_aload_n hx hb dL_law_570 rfl (lv_at hl 1 rfl) ?_
                              obtain ⟨a_106, ha_106, hf⟩ := bd_e hf
                              refine Ct.callVg (As := []) (rest := []) (st1 := [.int a_106]) ⟨Nat.le_of_ble_eq_true rfl, Nat.le_of_ble_eq_true rfl⟩ (c_X4_fixture l D cI A q18.2.1 q18.2.2.1 q18.2.2.2.1 q18.2.2.2.2.1 q18.2.2.2.2.2.1 q18.2.2.2.2.2.2.1 q18.2.2.2.2.2.2.2.1 a_106 ha_106) hx hb hml hown hts (cwV 0 hts gL_law_X4_fixture rfl rfl rfl hd_X4_fixture ⟨Nat.le_of_ble_eq_true rfl, Nat.le_of_ble_eq_true rfl⟩) (va_recv hK hP (ci := 4) (q0 := 0) rfl cL_at0) ln_L_X hA hK hP hD hS rfl hl.1 rfl rfl (Nat.le_of_ble_eq_true rfl) dL_law_571 (fun H locs hP hD hS => ?_)
                              refine lv_aload_n hx hb dL_law_574 rfl (lv_at hl 2 rfl) ?_
                              obtain ⟨a_107, ha_107, hf⟩ := bd_e hf
                              refine Ct.callVg (As := []) (rest := [.int a_106]) (st1 := [.int a_107, .int a_106]) ⟨Nat.le_of_ble_eq_true rfl, Nat.le_of_ble_eq_true rfl⟩ (c_X5_fixture l D cI B q18.2.2.2.2.2.2.2.2 a_107 ha_107) hx hb hml hown hts (cwV 0 hts gL_law_X5_fixture rfl rfl rfl hd_X5_fixture ⟨Nat.le_of_ble_eq_true rfl, Nat.le_of_ble_eq_true rfl⟩) (va_recv hK hP (ci := 5) (q0 := 34) rfl cL_at34) ln_L_M hA hK hP hD hS rfl hl.1 rfl rfl (Nat.le_of_ble_eq_true rfl) dL_law_575 (fun H locs hP hD hS => ?_)
                              refine lv_icmp_eq (tgt := 1163) hx hb dL_law_578 (by decide) (fun c_108 => ?_) (fun c_108 => ?_)
                              · replace hf := if_t c_108 hf
                                obtain ⟨v_109, ev_109, hf⟩ := nq_e hf
                                refine lv_iinc (v := v_109) (lv' := [(3, .int v_109), (0, .ref b), (1, .ref (A 0)), (2, .ref (B 0))]) hx hb dL_law_1163 hl (k := 3) rfl (by rw [ev_109]; rfl) (by decide) rfl (fun ls hl => ?_)
                                refine lv_goto (tgt := 18) hx hb dL_law_1166 (by decide) ?_
                                exact ih18 (v_109, q18.2.1, q18.2.2.1, q18.2.2.2.1, q18.2.2.2.2.1, q18.2.2.2.2.2.1, q18.2.2.2.2.2.2.1, q18.2.2.2.2.2.2.2.1, q18.2.2.2.2.2.2.2.2) hf H locs ls hP hD hS (lv_sub hl [1, 2, 3, 0] rfl)
                              · replace hf := if_f c_108 hf
                                refine lv_iconst (v := 0) hx hb dL_law_581 (by decide) ?_
                                exact absurd (Option.some.inj hf) (by decide)
                            · replace hf := if_f c_105 hf
                              by_cases c_110 : ((xs (q18.1).toNatClampNeg) &&& (63 : Int32)) = 13
                              · replace hf := if_t c_110 hf
                                refine lv_tableIn (off := 551) (tgt := 583) hx hb dL_law_32 (by rw [c_110]; decide +kernel) (by rw [c_110]; decide +kernel) (by rw [c_110]; decide +kernel) (by decide) ?_
                                refine lv_aload_n hx hb dL_law_583 rfl (lv_at hl 1 rfl) ?_
                                refine lv_aload_n hx hb dL_law_584 rfl (lv_at hl 0 rfl) ?_
                                refine lv_iload_n hx hb dL_law_585 rfl (lv_at hl 3 rfl) ?_
                                refine lv_iconst (v := 1) hx hb dL_law_586 (by decide) ?_
                                refine lv_iadd hx hb dL_law_587 ?_
                                obtain ⟨c_111, hf⟩ := gi_e hf
                                refine va_sld hx hb hX hbl hbA hS c_111 dL_law_588 ?_
                                refine lv_aload_n hx hb dL_law_589 rfl (lv_at hl 0 rfl) ?_
                                refine lv_iload_n hx hb dL_law_590 rfl (lv_at hl 3 rfl) ?_
                                refine lv_iconst (v := 2) hx hb dL_law_591 (by decide) ?_
                                refine lv_iadd hx hb dL_law_592 ?_
                                obtain ⟨c_112, hf⟩ := gi_e hf
                                refine va_sld hx hb hX hbl hbA hS c_112 dL_law_593 ?_
                                obtain ⟨a_113, ha_113, hf⟩ := bd_e hf
                                refine Ct.callVg (As := [.int (xs ((q18.1 + (1 : Int32))).toNatClampNeg), .int (xs ((q18.1 + (2 : Int32))).toNatClampNeg)]) (rest := []) (st1 := [.int a_113.1]) ⟨Nat.le_of_ble_eq_true rfl, Nat.le_of_ble_eq_true rfl⟩ (c_X4_fewest l D cI A q18.2.1 q18.2.2.1 q18.2.2.2.1 q18.2.2.2.2.1 q18.2.2.2.2.2.1 q18.2.2.2.2.2.2.1 q18.2.2.2.2.2.2.2.1 (xs ((q18.1 + (1 : Int32))).toNatClampNeg) (xs ((q18.1 + (2 : Int32))).toNatClampNeg) a_113 ha_113) hx hb hml hown hts (cwV 2 hts gL_law_X4_fewest rfl rfl rfl hd_X4_fewest ⟨Nat.le_of_ble_eq_true rfl, Nat.le_of_ble_eq_true rfl⟩) (va_recv hK hP (ci := 4) (q0 := 0) rfl cL_at0) ln_L_X hA hK hP hD hS rfl hl.1 rfl rfl (Nat.le_of_ble_eq_true rfl) dL_law_594 (fun H locs hP hD hS => ?_)
                                replace hP : va_P D vwCl (cL cI A B a_113.2.1 q18.2.2.1 q18.2.2.2.1 q18.2.2.2.2.1 q18.2.2.2.2.2.1 q18.2.2.2.2.2.2.1 a_113.2.2 q18.2.2.2.2.2.2.2.2) H := hP
                                replace hD : va_D (fun q : Nat => s.heap.size ≤ q) (cL cI A B a_113.2.1 q18.2.2.1 q18.2.2.2.1 q18.2.2.2.2.1 q18.2.2.2.2.2.1 q18.2.2.2.2.2.2.1 a_113.2.2 q18.2.2.2.2.2.2.2.2) := hD
                                refine lv_aload_n hx hb dL_law_597 rfl (lv_at hl 2 rfl) ?_
                                refine lv_aload_n hx hb dL_law_598 rfl (lv_at hl 0 rfl) ?_
                                refine lv_iload_n hx hb dL_law_599 rfl (lv_at hl 3 rfl) ?_
                                refine lv_iconst (v := 1) hx hb dL_law_600 (by decide) ?_
                                refine lv_iadd hx hb dL_law_601 ?_
                                obtain ⟨c_114, hf⟩ := gi_e hf
                                refine va_sld hx hb hX hbl hbA hS c_114 dL_law_602 ?_
                                refine lv_aload_n hx hb dL_law_603 rfl (lv_at hl 0 rfl) ?_
                                refine lv_iload_n hx hb dL_law_604 rfl (lv_at hl 3 rfl) ?_
                                refine lv_iconst (v := 2) hx hb dL_law_605 (by decide) ?_
                                refine lv_iadd hx hb dL_law_606 ?_
                                obtain ⟨c_115, hf⟩ := gi_e hf
                                refine va_sld hx hb hX hbl hbA hS c_115 dL_law_607 ?_
                                obtain ⟨a_116, ha_116, hf⟩ := bd_e hf
                                refine Ct.callVg (As := [.int (xs ((q18.1 + (1 : Int32))).toNatClampNeg), .int (xs ((q18.1 + (2 : Int32))).toNatClampNeg)]) (rest := [.int a_113.1]) (st1 := [.int a_116.1, .int a_113.1]) ⟨Nat.le_of_ble_eq_true rfl, Nat.le_of_ble_eq_true rfl⟩ (c_X5_fewest l D cI B q18.2.2.2.2.2.2.2.2 (xs ((q18.1 + (1 : Int32))).toNatClampNeg) (xs ((q18.1 + (2 : Int32))).toNatClampNeg) a_116 ha_116) hx hb hml hown hts (cwV 2 hts gL_law_X5_fewest rfl rfl rfl hd_X5_fewest ⟨Nat.le_of_ble_eq_true rfl, Nat.le_of_ble_eq_true rfl⟩) (va_recv hK hP (ci := 5) (q0 := 34) rfl cL_at34) ln_L_M hA hK hP hD hS rfl hl.1 rfl rfl (Nat.le_of_ble_eq_true rfl) dL_law_608 (fun H locs hP hD hS => ?_)
                                replace hP : va_P D vwCl (cL cI A B a_113.2.1 q18.2.2.1 q18.2.2.2.1 q18.2.2.2.2.1 q18.2.2.2.2.2.1 q18.2.2.2.2.2.2.1 a_113.2.2 a_116.2) H := hP
                                replace hD : va_D (fun q : Nat => s.heap.size ≤ q) (cL cI A B a_113.2.1 q18.2.2.1 q18.2.2.2.1 q18.2.2.2.2.1 q18.2.2.2.2.2.1 q18.2.2.2.2.2.2.1 a_113.2.2 a_116.2) := hD
                                refine lv_icmp_eq (tgt := 1163) hx hb dL_law_611 (by decide) (fun c_117 => ?_) (fun c_117 => ?_)
                                · replace hf := if_t c_117 hf
                                  obtain ⟨v_118, ev_118, hf⟩ := nq_e hf
                                  refine lv_iinc (v := v_118) (lv' := [(3, .int v_118), (0, .ref b), (1, .ref (A 0)), (2, .ref (B 0))]) hx hb dL_law_1163 hl (k := 3) rfl (by rw [ev_118]; rfl) (by decide) rfl (fun ls hl => ?_)
                                  refine lv_goto (tgt := 18) hx hb dL_law_1166 (by decide) ?_
                                  exact ih18 (v_118, a_113.2.1, q18.2.2.1, q18.2.2.2.1, q18.2.2.2.2.1, q18.2.2.2.2.2.1, q18.2.2.2.2.2.2.1, a_113.2.2, a_116.2) hf H locs ls hP hD hS (lv_sub hl [1, 2, 3, 0] rfl)
                                · replace hf := if_f c_117 hf
                                  refine lv_iconst (v := 0) hx hb dL_law_614 (by decide) ?_
                                  exact absurd (Option.some.inj hf) (by decide)
                              · replace hf := if_f c_110 hf
                                by_cases c_119 : ((xs (q18.1).toNatClampNeg) &&& (63 : Int32)) = 14
                                · replace hf := if_t c_119 hf
                                  refine lv_tableIn (off := 584) (tgt := 616) hx hb dL_law_32 (by rw [c_119]; decide +kernel) (by rw [c_119]; decide +kernel) (by rw [c_119]; decide +kernel) (by decide) ?_
                                  refine lv_aload_n hx hb dL_law_616 rfl (lv_at hl 1 rfl) ?_
                                  refine lv_aload_n hx hb dL_law_617 rfl (lv_at hl 0 rfl) ?_
                                  refine lv_iload_n hx hb dL_law_618 rfl (lv_at hl 3 rfl) ?_
                                  refine lv_iconst (v := 1) hx hb dL_law_619 (by decide) ?_
                                  refine lv_iadd hx hb dL_law_620 ?_
                                  obtain ⟨c_120, hf⟩ := gi_e hf
                                  refine va_sld hx hb hX hbl hbA hS c_120 dL_law_621 ?_
                                  refine lv_aload_n hx hb dL_law_622 rfl (lv_at hl 0 rfl) ?_
                                  refine lv_iload_n hx hb dL_law_623 rfl (lv_at hl 3 rfl) ?_
                                  refine lv_iconst (v := 2) hx hb dL_law_624 (by decide) ?_
                                  refine lv_iadd hx hb dL_law_625 ?_
                                  obtain ⟨c_121, hf⟩ := gi_e hf
                                  refine va_sld hx hb hX hbl hbA hS c_121 dL_law_626 ?_
                                  obtain ⟨a_122, ha_122, hf⟩ := bd_e hf
                                  refine Ct.callVg (As := [.int (xs ((q18.1 + (1 : Int32))).toNatClampNeg), .int (xs ((q18.1 + (2 : Int32))).toNatClampNeg)]) (rest := []) (st1 := [.int a_122.1]) ⟨Nat.le_of_ble_eq_true rfl, Nat.le_of_ble_eq_true rfl⟩ (c_X4_when l D cI A q18.2.1 q18.2.2.1 q18.2.2.2.1 q18.2.2.2.2.1 q18.2.2.2.2.2.1 q18.2.2.2.2.2.2.1 q18.2.2.2.2.2.2.2.1 (xs ((q18.1 + (1 : Int32))).toNatClampNeg) (xs ((q18.1 + (2 : Int32))).toNatClampNeg) a_122 ha_122) hx hb hml hown hts (cwV 2 hts gL_law_X4_when rfl rfl rfl hd_X4_when ⟨Nat.le_of_ble_eq_true rfl, Nat.le_of_ble_eq_true rfl⟩) (va_recv hK hP (ci := 4) (q0 := 0) rfl cL_at0) ln_L_X hA hK hP hD hS rfl hl.1 rfl rfl (Nat.le_of_ble_eq_true rfl) dL_law_627 (fun H locs hP hD hS => ?_)
                                  replace hP : va_P D vwCl (cL cI A B q18.2.1 a_122.2.1 q18.2.2.2.1 q18.2.2.2.2.1 q18.2.2.2.2.2.1 q18.2.2.2.2.2.2.1 a_122.2.2 q18.2.2.2.2.2.2.2.2) H := hP
                                  replace hD : va_D (fun q : Nat => s.heap.size ≤ q) (cL cI A B q18.2.1 a_122.2.1 q18.2.2.2.1 q18.2.2.2.2.1 q18.2.2.2.2.2.1 q18.2.2.2.2.2.2.1 a_122.2.2 q18.2.2.2.2.2.2.2.2) := hD
                                  refine lv_aload_n hx hb dL_law_630 rfl (lv_at hl 2 rfl) ?_
                                  refine lv_aload_n hx hb dL_law_631 rfl (lv_at hl 0 rfl) ?_
                                  refine lv_iload_n hx hb dL_law_632 rfl (lv_at hl 3 rfl) ?_
                                  refine lv_iconst (v := 1) hx hb dL_law_633 (by decide) ?_
                                  refine lv_iadd hx hb dL_law_634 ?_
                                  obtain ⟨c_123, hf⟩ := gi_e hf
                                  refine va_sld hx hb hX hbl hbA hS c_123 dL_law_635 ?_
                                  refine lv_aload_n hx hb dL_law_636 rfl (lv_at hl 0 rfl) ?_
                                  refine lv_iload_n hx hb dL_law_637 rfl (lv_at hl 3 rfl) ?_
                                  refine lv_iconst (v := 2) hx hb dL_law_638 (by decide) ?_
                                  refine lv_iadd hx hb dL_law_639 ?_
                                  obtain ⟨c_124, hf⟩ := gi_e hf
                                  refine va_sld hx hb hX hbl hbA hS c_124 dL_law_640 ?_
                                  obtain ⟨a_125, ha_125, hf⟩ := bd_e hf
                                  refine Ct.callVg (As := [.int (xs ((q18.1 + (1 : Int32))).toNatClampNeg), .int (xs ((q18.1 + (2 : Int32))).toNatClampNeg)]) (rest := [.int a_122.1]) (st1 := [.int a_125.1, .int a_122.1]) ⟨Nat.le_of_ble_eq_true rfl, Nat.le_of_ble_eq_true rfl⟩ (c_X5_when l D cI B q18.2.2.2.2.2.2.2.2 (xs ((q18.1 + (1 : Int32))).toNatClampNeg) (xs ((q18.1 + (2 : Int32))).toNatClampNeg) a_125 ha_125) hx hb hml hown hts (cwV 2 hts gL_law_X5_when rfl rfl rfl hd_X5_when ⟨Nat.le_of_ble_eq_true rfl, Nat.le_of_ble_eq_true rfl⟩) (va_recv hK hP (ci := 5) (q0 := 34) rfl cL_at34) ln_L_M hA hK hP hD hS rfl hl.1 rfl rfl (Nat.le_of_ble_eq_true rfl) dL_law_641 (fun H locs hP hD hS => ?_)
                                  replace hP : va_P D vwCl (cL cI A B q18.2.1 a_122.2.1 q18.2.2.2.1 q18.2.2.2.2.1 q18.2.2.2.2.2.1 q18.2.2.2.2.2.2.1 a_122.2.2 a_125.2) H := hP
                                  replace hD : va_D (fun q : Nat => s.heap.size ≤ q) (cL cI A B q18.2.1 a_122.2.1 q18.2.2.2.1 q18.2.2.2.2.1 q18.2.2.2.2.2.1 q18.2.2.2.2.2.2.1 a_122.2.2 a_125.2) := hD
                                  refine lv_icmp_eq (tgt := 1163) hx hb dL_law_644 (by decide) (fun c_126 => ?_) (fun c_126 => ?_)
                                  · replace hf := if_t c_126 hf
                                    obtain ⟨v_127, ev_127, hf⟩ := nq_e hf
                                    refine lv_iinc (v := v_127) (lv' := [(3, .int v_127), (0, .ref b), (1, .ref (A 0)), (2, .ref (B 0))]) hx hb dL_law_1163 hl (k := 3) rfl (by rw [ev_127]; rfl) (by decide) rfl (fun ls hl => ?_)
                                    refine lv_goto (tgt := 18) hx hb dL_law_1166 (by decide) ?_
                                    exact ih18 (v_127, q18.2.1, a_122.2.1, q18.2.2.2.1, q18.2.2.2.2.1, q18.2.2.2.2.2.1, q18.2.2.2.2.2.2.1, a_122.2.2, a_125.2) hf H locs ls hP hD hS (lv_sub hl [1, 2, 3, 0] rfl)
                                  · replace hf := if_f c_126 hf
                                    refine lv_iconst (v := 0) hx hb dL_law_647 (by decide) ?_
                                    exact absurd (Option.some.inj hf) (by decide)
                                · replace hf := if_f c_119 hf
                                  by_cases c_128 : ((xs (q18.1).toNatClampNeg) &&& (63 : Int32)) = 15
                                  · replace hf := if_t c_128 hf
                                    refine lv_tableIn (off := 617) (tgt := 649) hx hb dL_law_32 (by rw [c_128]; decide +kernel) (by rw [c_128]; decide +kernel) (by rw [c_128]; decide +kernel) (by decide) ?_
                                    refine lv_aload_n hx hb dL_law_649 rfl (lv_at hl 1 rfl) ?_
                                    obtain ⟨a_129, ha_129, hf⟩ := bd_e hf
                                    refine Ct.callVg (As := []) (rest := []) (st1 := [.int a_129.1]) ⟨Nat.le_of_ble_eq_true rfl, Nat.le_of_ble_eq_true rfl⟩ (c_X4_cheapest l D cI A q18.2.1 q18.2.2.1 q18.2.2.2.1 q18.2.2.2.2.1 q18.2.2.2.2.2.1 q18.2.2.2.2.2.2.1 q18.2.2.2.2.2.2.2.1 a_129 ha_129) hx hb hml hown hts (cwV 0 hts gL_law_X4_cheapest rfl rfl rfl hd_X4_cheapest ⟨Nat.le_of_ble_eq_true rfl, Nat.le_of_ble_eq_true rfl⟩) (va_recv hK hP (ci := 4) (q0 := 0) rfl cL_at0) ln_L_X hA hK hP hD hS rfl hl.1 rfl rfl (Nat.le_of_ble_eq_true rfl) dL_law_650 (fun H locs hP hD hS => ?_)
                                    replace hP : va_P D vwCl (cL cI A B a_129.2 q18.2.2.1 q18.2.2.2.1 q18.2.2.2.2.1 q18.2.2.2.2.2.1 q18.2.2.2.2.2.2.1 q18.2.2.2.2.2.2.2.1 q18.2.2.2.2.2.2.2.2) H := hP
                                    replace hD : va_D (fun q : Nat => s.heap.size ≤ q) (cL cI A B a_129.2 q18.2.2.1 q18.2.2.2.1 q18.2.2.2.2.1 q18.2.2.2.2.2.1 q18.2.2.2.2.2.2.1 q18.2.2.2.2.2.2.2.1 q18.2.2.2.2.2.2.2.2) := hD
                                    refine lv_aload_n hx hb dL_law_653 rfl (lv_at hl 2 rfl) ?_
                                    obtain ⟨a_130, ha_130, hf⟩ := bd_e hf
                                    refine Ct.callVg (As := []) (rest := [.int a_129.1]) (st1 := [.int a_130.1, .int a_129.1]) ⟨Nat.le_of_ble_eq_true rfl, Nat.le_of_ble_eq_true rfl⟩ (c_X5_cheapest l D cI B q18.2.2.2.2.2.2.2.2 a_130 ha_130) hx hb hml hown hts (cwV 0 hts gL_law_X5_cheapest rfl rfl rfl hd_X5_cheapest ⟨Nat.le_of_ble_eq_true rfl, Nat.le_of_ble_eq_true rfl⟩) (va_recv hK hP (ci := 5) (q0 := 34) rfl cL_at34) ln_L_M hA hK hP hD hS rfl hl.1 rfl rfl (Nat.le_of_ble_eq_true rfl) dL_law_654 (fun H locs hP hD hS => ?_)
                                    replace hP : va_P D vwCl (cL cI A B a_129.2 q18.2.2.1 q18.2.2.2.1 q18.2.2.2.2.1 q18.2.2.2.2.2.1 q18.2.2.2.2.2.2.1 q18.2.2.2.2.2.2.2.1 a_130.2) H := hP
                                    replace hD : va_D (fun q : Nat => s.heap.size ≤ q) (cL cI A B a_129.2 q18.2.2.1 q18.2.2.2.1 q18.2.2.2.2.1 q18.2.2.2.2.2.1 q18.2.2.2.2.2.2.1 q18.2.2.2.2.2.2.2.1 a_130.2) := hD
                                    refine lv_icmp_eq (tgt := 1163) hx hb dL_law_657 (by decide) (fun c_131 => ?_) (fun c_131 => ?_)
                                    · replace hf := if_t c_131 hf
                                      obtain ⟨v_132, ev_132, hf⟩ := nq_e hf
                                      refine lv_iinc (v := v_132) (lv' := [(3, .int v_132), (0, .ref b), (1, .ref (A 0)), (2, .ref (B 0))]) hx hb dL_law_1163 hl (k := 3) rfl (by rw [ev_132]; rfl) (by decide) rfl (fun ls hl => ?_)
                                      refine lv_goto (tgt := 18) hx hb dL_law_1166 (by decide) ?_
                                      exact ih18 (v_132, a_129.2, q18.2.2.1, q18.2.2.2.1, q18.2.2.2.2.1, q18.2.2.2.2.2.1, q18.2.2.2.2.2.2.1, q18.2.2.2.2.2.2.2.1, a_130.2) hf H locs ls hP hD hS (lv_sub hl [1, 2, 3, 0] rfl)
                                    · replace hf := if_f c_131 hf
                                      refine lv_iconst (v := 0) hx hb dL_law_660 (by decide) ?_
                                      exact absurd (Option.some.inj hf) (by decide)
                                  · replace hf := if_f c_128 hf
                                    by_cases c_133 : ((xs (q18.1).toNatClampNeg) &&& (63 : Int32)) = 16
                                    · replace hf := if_t c_133 hf
                                      refine lv_tableIn (off := 630) (tgt := 662) hx hb dL_law_32 (by rw [c_133]; decide +kernel) (by rw [c_133]; decide +kernel) (by rw [c_133]; decide +kernel) (by decide) ?_
                                      refine lv_aload_n hx hb dL_law_662 rfl (lv_at hl 1 rfl) ?_
                                      refine lv_aload_n hx hb dL_law_663 rfl (lv_at hl 0 rfl) ?_
                                      refine lv_iload_n hx hb dL_law_664 rfl (lv_at hl 3 rfl) ?_
                                      refine lv_iconst (v := 1) hx hb dL_law_665 (by decide) ?_
                                      refine lv_iadd hx hb dL_law_666 ?_
                                      obtain ⟨c_134, hf⟩ := gi_e hf
                                      refine va_sld hx hb hX hbl hbA hS c_134 dL_law_667 ?_
                                      obtain ⟨a_135, ha_135, hf⟩ := bd_e hf
                                      refine Ct.callVg (As := [.int (xs ((q18.1 + (1 : Int32))).toNatClampNeg)]) (rest := []) (st1 := [.int a_135.1]) ⟨Nat.le_of_ble_eq_true rfl, Nat.le_of_ble_eq_true rfl⟩ (c_X4_berth l D cI A q18.2.1 q18.2.2.1 q18.2.2.2.1 q18.2.2.2.2.1 q18.2.2.2.2.2.1 q18.2.2.2.2.2.2.1 q18.2.2.2.2.2.2.2.1 (xs ((q18.1 + (1 : Int32))).toNatClampNeg) a_135 ha_135) hx hb hml hown hts (cwV 1 hts gL_law_X4_berth rfl rfl rfl hd_X4_berth ⟨Nat.le_of_ble_eq_true rfl, Nat.le_of_ble_eq_true rfl⟩) (va_recv hK hP (ci := 4) (q0 := 0) rfl cL_at0) ln_L_X hA hK hP hD hS rfl hl.1 rfl rfl (Nat.le_of_ble_eq_true rfl) dL_law_668 (fun H locs hP hD hS => ?_)
                                      replace hP : va_P D vwCl (cL cI A B q18.2.1 a_135.2.1 q18.2.2.2.1 q18.2.2.2.2.1 q18.2.2.2.2.2.1 q18.2.2.2.2.2.2.1 a_135.2.2 q18.2.2.2.2.2.2.2.2) H := hP
                                      replace hD : va_D (fun q : Nat => s.heap.size ≤ q) (cL cI A B q18.2.1 a_135.2.1 q18.2.2.2.1 q18.2.2.2.2.1 q18.2.2.2.2.2.1 q18.2.2.2.2.2.2.1 a_135.2.2 q18.2.2.2.2.2.2.2.2) := hD
                                      refine lv_aload_n hx hb dL_law_671 rfl (lv_at hl 2 rfl) ?_
                                      refine lv_aload_n hx hb dL_law_672 rfl (lv_at hl 0 rfl) ?_
                                      refine lv_iload_n hx hb dL_law_673 rfl (lv_at hl 3 rfl) ?_
                                      refine lv_iconst (v := 1) hx hb dL_law_674 (by decide) ?_
                                      refine lv_iadd hx hb dL_law_675 ?_
                                      obtain ⟨c_136, hf⟩ := gi_e hf
                                      refine va_sld hx hb hX hbl hbA hS c_136 dL_law_676 ?_
                                      obtain ⟨a_137, ha_137, hf⟩ := bd_e hf
                                      refine Ct.callVg (As := [.int (xs ((q18.1 + (1 : Int32))).toNatClampNeg)]) (rest := [.int a_135.1]) (st1 := [.int a_137.1, .int a_135.1]) ⟨Nat.le_of_ble_eq_true rfl, Nat.le_of_ble_eq_true rfl⟩ (c_X5_berth l D cI B q18.2.2.2.2.2.2.2.2 (xs ((q18.1 + (1 : Int32))).toNatClampNeg) a_137 ha_137) hx hb hml hown hts (cwV 1 hts gL_law_X5_berth rfl rfl rfl hd_X5_berth ⟨Nat.le_of_ble_eq_true rfl, Nat.le_of_ble_eq_true rfl⟩) (va_recv hK hP (ci := 5) (q0 := 34) rfl cL_at34) ln_L_M hA hK hP hD hS rfl hl.1 rfl rfl (Nat.le_of_ble_eq_true rfl) dL_law_677 (fun H locs hP hD hS => ?_)
                                      replace hP : va_P D vwCl (cL cI A B q18.2.1 a_135.2.1 q18.2.2.2.1 q18.2.2.2.2.1 q18.2.2.2.2.2.1 q18.2.2.2.2.2.2.1 a_135.2.2 a_137.2) H := hP
                                      replace hD : va_D (fun q : Nat => s.heap.size ≤ q) (cL cI A B q18.2.1 a_135.2.1 q18.2.2.2.1 q18.2.2.2.2.1 q18.2.2.2.2.2.1 q18.2.2.2.2.2.2.1 a_135.2.2 a_137.2) := hD
                                      refine lv_icmp_eq (tgt := 1163) hx hb dL_law_680 (by decide) (fun c_138 => ?_) (fun c_138 => ?_)
                                      · replace hf := if_t c_138 hf
                                        obtain ⟨v_139, ev_139, hf⟩ := nq_e hf
                                        refine lv_iinc (v := v_139) (lv' := [(3, .int v_139), (0, .ref b), (1, .ref (A 0)), (2, .ref (B 0))]) hx hb dL_law_1163 hl (k := 3) rfl (by rw [ev_139]; rfl) (by decide) rfl (fun ls hl => ?_)
                                        refine lv_goto (tgt := 18) hx hb dL_law_1166 (by decide) ?_
                                        exact ih18 (v_139, q18.2.1, a_135.2.1, q18.2.2.2.1, q18.2.2.2.2.1, q18.2.2.2.2.2.1, q18.2.2.2.2.2.2.1, a_135.2.2, a_137.2) hf H locs ls hP hD hS (lv_sub hl [1, 2, 3, 0] rfl)
                                      · replace hf := if_f c_138 hf
                                        refine lv_iconst (v := 0) hx hb dL_law_683 (by decide) ?_
                                        exact absurd (Option.some.inj hf) (by decide)
                                    · replace hf := if_f c_133 hf
                                      by_cases c_140 : ((xs (q18.1).toNatClampNeg) &&& (63 : Int32)) = 17
                                      · replace hf := if_t c_140 hf
                                        refine lv_tableIn (off := 653) (tgt := 685) hx hb dL_law_32 (by rw [c_140]; decide +kernel) (by rw [c_140]; decide +kernel) (by rw [c_140]; decide +kernel) (by decide) ?_
                                        refine lv_aload_n hx hb dL_law_685 rfl (lv_at hl 1 rfl) ?_
                                        obtain ⟨a_141, ha_141, hf⟩ := bd_e hf
                                        refine Ct.callVg (As := []) (rest := []) (st1 := [.int a_141]) ⟨Nat.le_of_ble_eq_true rfl, Nat.le_of_ble_eq_true rfl⟩ (c_X4_rise l D cI A q18.2.1 q18.2.2.1 q18.2.2.2.1 q18.2.2.2.2.1 q18.2.2.2.2.2.1 q18.2.2.2.2.2.2.1 q18.2.2.2.2.2.2.2.1 a_141 ha_141) hx hb hml hown hts (cwV 0 hts gL_law_X4_rise rfl rfl rfl hd_X4_rise ⟨Nat.le_of_ble_eq_true rfl, Nat.le_of_ble_eq_true rfl⟩) (va_recv hK hP (ci := 4) (q0 := 0) rfl cL_at0) ln_L_X hA hK hP hD hS rfl hl.1 rfl rfl (Nat.le_of_ble_eq_true rfl) dL_law_686 (fun H locs hP hD hS => ?_)
                                        refine lv_aload_n hx hb dL_law_689 rfl (lv_at hl 2 rfl) ?_
                                        obtain ⟨a_142, ha_142, hf⟩ := bd_e hf
                                        refine Ct.callVg (As := []) (rest := [.int a_141]) (st1 := [.int a_142, .int a_141]) ⟨Nat.le_of_ble_eq_true rfl, Nat.le_of_ble_eq_true rfl⟩ (c_X5_rise l D cI B q18.2.2.2.2.2.2.2.2 a_142 ha_142) hx hb hml hown hts (cwV 0 hts gL_law_X5_rise rfl rfl rfl hd_X5_rise ⟨Nat.le_of_ble_eq_true rfl, Nat.le_of_ble_eq_true rfl⟩) (va_recv hK hP (ci := 5) (q0 := 34) rfl cL_at34) ln_L_M hA hK hP hD hS rfl hl.1 rfl rfl (Nat.le_of_ble_eq_true rfl) dL_law_690 (fun H locs hP hD hS => ?_)
                                        refine lv_icmp_eq (tgt := 1163) hx hb dL_law_693 (by decide) (fun c_143 => ?_) (fun c_143 => ?_)
                                        · replace hf := if_t c_143 hf
                                          obtain ⟨v_144, ev_144, hf⟩ := nq_e hf
                                          refine lv_iinc (v := v_144) (lv' := [(3, .int v_144), (0, .ref b), (1, .ref (A 0)), (2, .ref (B 0))]) hx hb dL_law_1163 hl (k := 3) rfl (by rw [ev_144]; rfl) (by decide) rfl (fun ls hl => ?_)
                                          refine lv_goto (tgt := 18) hx hb dL_law_1166 (by decide) ?_
                                          exact ih18 (v_144, q18.2.1, q18.2.2.1, q18.2.2.2.1, q18.2.2.2.2.1, q18.2.2.2.2.2.1, q18.2.2.2.2.2.2.1, q18.2.2.2.2.2.2.2.1, q18.2.2.2.2.2.2.2.2) hf H locs ls hP hD hS (lv_sub hl [1, 2, 3, 0] rfl)
                                        · replace hf := if_f c_143 hf
                                          refine lv_iconst (v := 0) hx hb dL_law_696 (by decide) ?_
                                          exact absurd (Option.some.inj hf) (by decide)
                                      · replace hf := if_f c_140 hf
                                        by_cases c_145 : ((xs (q18.1).toNatClampNeg) &&& (63 : Int32)) = 18
                                        · replace hf := if_t c_145 hf
                                          refine lv_tableIn (off := 666) (tgt := 698) hx hb dL_law_32 (by rw [c_145]; decide +kernel) (by rw [c_145]; decide +kernel) (by rw [c_145]; decide +kernel) (by decide) ?_
                                          refine lv_aload_n hx hb dL_law_698 rfl (lv_at hl 1 rfl) ?_
                                          obtain ⟨a_146, ha_146, hf⟩ := bd_e hf
                                          refine Ct.callVg (As := []) (rest := []) (st1 := [.int a_146.1]) ⟨Nat.le_of_ble_eq_true rfl, Nat.le_of_ble_eq_true rfl⟩ (c_X4_deal l D cI A q18.2.1 q18.2.2.1 q18.2.2.2.1 q18.2.2.2.2.1 q18.2.2.2.2.2.1 q18.2.2.2.2.2.2.1 q18.2.2.2.2.2.2.2.1 a_146 ha_146) hx hb hml hown hts (cwV 0 hts gL_law_X4_deal rfl rfl rfl hd_X4_deal ⟨Nat.le_of_ble_eq_true rfl, Nat.le_of_ble_eq_true rfl⟩) (va_recv hK hP (ci := 4) (q0 := 0) rfl cL_at0) ln_L_X hA hK hP hD hS rfl hl.1 rfl rfl (Nat.le_of_ble_eq_true rfl) dL_law_699 (fun H locs hP hD hS => ?_)
                                          replace hP : va_P D vwCl (cL cI A B q18.2.1 a_146.2 q18.2.2.2.1 q18.2.2.2.2.1 q18.2.2.2.2.2.1 q18.2.2.2.2.2.2.1 q18.2.2.2.2.2.2.2.1 q18.2.2.2.2.2.2.2.2) H := hP
                                          replace hD : va_D (fun q : Nat => s.heap.size ≤ q) (cL cI A B q18.2.1 a_146.2 q18.2.2.2.1 q18.2.2.2.2.1 q18.2.2.2.2.2.1 q18.2.2.2.2.2.2.1 q18.2.2.2.2.2.2.2.1 q18.2.2.2.2.2.2.2.2) := hD
                                          refine lv_aload_n hx hb dL_law_702 rfl (lv_at hl 2 rfl) ?_
                                          obtain ⟨a_147, ha_147, hf⟩ := bd_e hf
                                          refine Ct.callVg (As := []) (rest := [.int a_146.1]) (st1 := [.int a_147.1, .int a_146.1]) ⟨Nat.le_of_ble_eq_true rfl, Nat.le_of_ble_eq_true rfl⟩ (c_X5_deal l D cI B q18.2.2.2.2.2.2.2.2 a_147 ha_147) hx hb hml hown hts (cwV 0 hts gL_law_X5_deal rfl rfl rfl hd_X5_deal ⟨Nat.le_of_ble_eq_true rfl, Nat.le_of_ble_eq_true rfl⟩) (va_recv hK hP (ci := 5) (q0 := 34) rfl cL_at34) ln_L_M hA hK hP hD hS rfl hl.1 rfl rfl (Nat.le_of_ble_eq_true rfl) dL_law_703 (fun H locs hP hD hS => ?_)
                                          replace hP : va_P D vwCl (cL cI A B q18.2.1 a_146.2 q18.2.2.2.1 q18.2.2.2.2.1 q18.2.2.2.2.2.1 q18.2.2.2.2.2.2.1 q18.2.2.2.2.2.2.2.1 a_147.2) H := hP
                                          replace hD : va_D (fun q : Nat => s.heap.size ≤ q) (cL cI A B q18.2.1 a_146.2 q18.2.2.2.1 q18.2.2.2.2.1 q18.2.2.2.2.2.1 q18.2.2.2.2.2.2.1 q18.2.2.2.2.2.2.2.1 a_147.2) := hD
                                          refine lv_icmp_eq (tgt := 1163) hx hb dL_law_706 (by decide) (fun c_148 => ?_) (fun c_148 => ?_)
                                          · replace hf := if_t c_148 hf
                                            obtain ⟨v_149, ev_149, hf⟩ := nq_e hf
                                            refine lv_iinc (v := v_149) (lv' := [(3, .int v_149), (0, .ref b), (1, .ref (A 0)), (2, .ref (B 0))]) hx hb dL_law_1163 hl (k := 3) rfl (by rw [ev_149]; rfl) (by decide) rfl (fun ls hl => ?_)
                                            refine lv_goto (tgt := 18) hx hb dL_law_1166 (by decide) ?_
                                            exact ih18 (v_149, q18.2.1, a_146.2, q18.2.2.2.1, q18.2.2.2.2.1, q18.2.2.2.2.2.1, q18.2.2.2.2.2.2.1, q18.2.2.2.2.2.2.2.1, a_147.2) hf H locs ls hP hD hS (lv_sub hl [1, 2, 3, 0] rfl)
                                          · replace hf := if_f c_148 hf
                                            refine lv_iconst (v := 0) hx hb dL_law_709 (by decide) ?_
                                            exact absurd (Option.some.inj hf) (by decide)
                                        · replace hf := if_f c_145 hf
                                          by_cases c_150 : ((xs (q18.1).toNatClampNeg) &&& (63 : Int32)) = 19
                                          · replace hf := if_t c_150 hf
                                            refine lv_tableIn (off := 679) (tgt := 711) hx hb dL_law_32 (by rw [c_150]; decide +kernel) (by rw [c_150]; decide +kernel) (by rw [c_150]; decide +kernel) (by decide) ?_
                                            refine lv_aload_n hx hb dL_law_711 rfl (lv_at hl 1 rfl) ?_
                                            obtain ⟨a_151, ha_151, hf⟩ := bd_e hf
                                            refine Ct.callVg (As := []) (rest := []) (st1 := [.int a_151]) ⟨Nat.le_of_ble_eq_true rfl, Nat.le_of_ble_eq_true rfl⟩ (c_X4_hush l D cI A q18.2.1 q18.2.2.1 q18.2.2.2.1 q18.2.2.2.2.1 q18.2.2.2.2.2.1 q18.2.2.2.2.2.2.1 q18.2.2.2.2.2.2.2.1 a_151 ha_151) hx hb hml hown hts (cwV 0 hts gL_law_X4_hush rfl rfl rfl hd_X4_hush ⟨Nat.le_of_ble_eq_true rfl, Nat.le_of_ble_eq_true rfl⟩) (va_recv hK hP (ci := 4) (q0 := 0) rfl cL_at0) ln_L_X hA hK hP hD hS rfl hl.1 rfl rfl (Nat.le_of_ble_eq_true rfl) dL_law_712 (fun H locs hP hD hS => ?_)
                                            refine lv_aload_n hx hb dL_law_715 rfl (lv_at hl 2 rfl) ?_
                                            obtain ⟨a_152, ha_152, hf⟩ := bd_e hf
                                            refine Ct.callVg (As := []) (rest := [.int a_151]) (st1 := [.int a_152, .int a_151]) ⟨Nat.le_of_ble_eq_true rfl, Nat.le_of_ble_eq_true rfl⟩ (c_X5_hush l D cI B q18.2.2.2.2.2.2.2.2 a_152 ha_152) hx hb hml hown hts (cwV 0 hts gL_law_X5_hush rfl rfl rfl hd_X5_hush ⟨Nat.le_of_ble_eq_true rfl, Nat.le_of_ble_eq_true rfl⟩) (va_recv hK hP (ci := 5) (q0 := 34) rfl cL_at34) ln_L_M hA hK hP hD hS rfl hl.1 rfl rfl (Nat.le_of_ble_eq_true rfl) dL_law_716 (fun H locs hP hD hS => ?_)
                                            refine lv_icmp_eq (tgt := 1163) hx hb dL_law_719 (by decide) (fun c_153 => ?_) (fun c_153 => ?_)
                                            · replace hf := if_t c_153 hf
                                              obtain ⟨v_154, ev_154, hf⟩ := nq_e hf
                                              refine lv_iinc (v := v_154) (lv' := [(3, .int v_154), (0, .ref b), (1, .ref (A 0)), (2, .ref (B 0))]) hx hb dL_law_1163 hl (k := 3) rfl (by rw [ev_154]; rfl) (by decide) rfl (fun ls hl => ?_)
                                              refine lv_goto (tgt := 18) hx hb dL_law_1166 (by decide) ?_
                                              exact ih18 (v_154, q18.2.1, q18.2.2.1, q18.2.2.2.1, q18.2.2.2.2.1, q18.2.2.2.2.2.1, q18.2.2.2.2.2.2.1, q18.2.2.2.2.2.2.2.1, q18.2.2.2.2.2.2.2.2) hf H locs ls hP hD hS (lv_sub hl [1, 2, 3, 0] rfl)
                                            · replace hf := if_f c_153 hf
                                              refine lv_iconst (v := 0) hx hb dL_law_722 (by decide) ?_
                                              exact absurd (Option.some.inj hf) (by decide)
                                          · replace hf := if_f c_150 hf
                                            by_cases c_155 : ((xs (q18.1).toNatClampNeg) &&& (63 : Int32)) = 20
                                            · replace hf := if_t c_155 hf
                                              refine lv_tableIn (off := 692) (tgt := 724) hx hb dL_law_32 (by rw [c_155]; decide +kernel) (by rw [c_155]; decide +kernel) (by rw [c_155]; decide +kernel) (by decide) ?_
                                              refine lv_aload_n hx hb dL_law_724 rfl (lv_at hl 1 rfl) ?_
                                              refine lv_aload_n hx hb dL_law_725 rfl (lv_at hl 0 rfl) ?_
                                              refine lv_iload_n hx hb dL_law_726 rfl (lv_at hl 3 rfl) ?_
                                              refine lv_iconst (v := 1) hx hb dL_law_727 (by decide) ?_
                                              refine lv_iadd hx hb dL_law_728 ?_
                                              obtain ⟨c_156, hf⟩ := gi_e hf
                                              refine va_sld hx hb hX hbl hbA hS c_156 dL_law_729 ?_
                                              obtain ⟨a_157, ha_157, hf⟩ := bd_e hf
                                              refine Ct.callVg (As := [.int (xs ((q18.1 + (1 : Int32))).toNatClampNeg)]) (rest := []) (st1 := [.int a_157.1]) ⟨Nat.le_of_ble_eq_true rfl, Nat.le_of_ble_eq_true rfl⟩ (c_X4_loudest l D cI A q18.2.1 q18.2.2.1 q18.2.2.2.1 q18.2.2.2.2.1 q18.2.2.2.2.2.1 q18.2.2.2.2.2.2.1 q18.2.2.2.2.2.2.2.1 (xs ((q18.1 + (1 : Int32))).toNatClampNeg) a_157 ha_157) hx hb hml hown hts (cwV 1 hts gL_law_X4_loudest rfl rfl rfl hd_X4_loudest ⟨Nat.le_of_ble_eq_true rfl, Nat.le_of_ble_eq_true rfl⟩) (va_recv hK hP (ci := 4) (q0 := 0) rfl cL_at0) ln_L_X hA hK hP hD hS rfl hl.1 rfl rfl (Nat.le_of_ble_eq_true rfl) dL_law_730 (fun H locs hP hD hS => ?_)
                                              replace hP : va_P D vwCl (cL cI A B q18.2.1 a_157.2.1 q18.2.2.2.1 q18.2.2.2.2.1 q18.2.2.2.2.2.1 q18.2.2.2.2.2.2.1 a_157.2.2 q18.2.2.2.2.2.2.2.2) H := hP
                                              replace hD : va_D (fun q : Nat => s.heap.size ≤ q) (cL cI A B q18.2.1 a_157.2.1 q18.2.2.2.1 q18.2.2.2.2.1 q18.2.2.2.2.2.1 q18.2.2.2.2.2.2.1 a_157.2.2 q18.2.2.2.2.2.2.2.2) := hD
                                              refine lv_aload_n hx hb dL_law_733 rfl (lv_at hl 2 rfl) ?_
                                              refine lv_aload_n hx hb dL_law_734 rfl (lv_at hl 0 rfl) ?_
                                              refine lv_iload_n hx hb dL_law_735 rfl (lv_at hl 3 rfl) ?_
                                              refine lv_iconst (v := 1) hx hb dL_law_736 (by decide) ?_
                                              refine lv_iadd hx hb dL_law_737 ?_
                                              obtain ⟨c_158, hf⟩ := gi_e hf
                                              refine va_sld hx hb hX hbl hbA hS c_158 dL_law_738 ?_
                                              obtain ⟨a_159, ha_159, hf⟩ := bd_e hf
                                              refine Ct.callVg (As := [.int (xs ((q18.1 + (1 : Int32))).toNatClampNeg)]) (rest := [.int a_157.1]) (st1 := [.int a_159.1, .int a_157.1]) ⟨Nat.le_of_ble_eq_true rfl, Nat.le_of_ble_eq_true rfl⟩ (c_X5_loudest l D cI B q18.2.2.2.2.2.2.2.2 (xs ((q18.1 + (1 : Int32))).toNatClampNeg) a_159 ha_159) hx hb hml hown hts (cwV 1 hts gL_law_X5_loudest rfl rfl rfl hd_X5_loudest ⟨Nat.le_of_ble_eq_true rfl, Nat.le_of_ble_eq_true rfl⟩) (va_recv hK hP (ci := 5) (q0 := 34) rfl cL_at34) ln_L_M hA hK hP hD hS rfl hl.1 rfl rfl (Nat.le_of_ble_eq_true rfl) dL_law_739 (fun H locs hP hD hS => ?_)
                                              replace hP : va_P D vwCl (cL cI A B q18.2.1 a_157.2.1 q18.2.2.2.1 q18.2.2.2.2.1 q18.2.2.2.2.2.1 q18.2.2.2.2.2.2.1 a_157.2.2 a_159.2) H := hP
                                              replace hD : va_D (fun q : Nat => s.heap.size ≤ q) (cL cI A B q18.2.1 a_157.2.1 q18.2.2.2.1 q18.2.2.2.2.1 q18.2.2.2.2.2.1 q18.2.2.2.2.2.2.1 a_157.2.2 a_159.2) := hD
                                              refine lv_icmp_eq (tgt := 1163) hx hb dL_law_742 (by decide) (fun c_160 => ?_) (fun c_160 => ?_)
                                              · replace hf := if_t c_160 hf
                                                obtain ⟨v_161, ev_161, hf⟩ := nq_e hf
                                                refine lv_iinc (v := v_161) (lv' := [(3, .int v_161), (0, .ref b), (1, .ref (A 0)), (2, .ref (B 0))]) hx hb dL_law_1163 hl (k := 3) rfl (by rw [ev_161]; rfl) (by decide) rfl (fun ls hl => ?_)
                                                refine lv_goto (tgt := 18) hx hb dL_law_1166 (by decide) ?_
                                                exact ih18 (v_161, q18.2.1, a_157.2.1, q18.2.2.2.1, q18.2.2.2.2.1, q18.2.2.2.2.2.1, q18.2.2.2.2.2.2.1, a_157.2.2, a_159.2) hf H locs ls hP hD hS (lv_sub hl [1, 2, 3, 0] rfl)
                                              · replace hf := if_f c_160 hf
                                                refine lv_iconst (v := 0) hx hb dL_law_745 (by decide) ?_
                                                exact absurd (Option.some.inj hf) (by decide)
                                            · replace hf := if_f c_155 hf
                                              by_cases c_162 : ((xs (q18.1).toNatClampNeg) &&& (63 : Int32)) = 21
                                              · replace hf := if_t c_162 hf
                                                refine lv_tableIn (off := 715) (tgt := 747) hx hb dL_law_32 (by rw [c_162]; decide +kernel) (by rw [c_162]; decide +kernel) (by rw [c_162]; decide +kernel) (by decide) ?_
                                                refine lv_aload_n hx hb dL_law_747 rfl (lv_at hl 1 rfl) ?_
                                                refine lv_aload_n hx hb dL_law_748 rfl (lv_at hl 0 rfl) ?_
                                                refine lv_iload_n hx hb dL_law_749 rfl (lv_at hl 3 rfl) ?_
                                                refine lv_iconst (v := 1) hx hb dL_law_750 (by decide) ?_
                                                refine lv_iadd hx hb dL_law_751 ?_
                                                obtain ⟨c_163, hf⟩ := gi_e hf
                                                refine va_sld hx hb hX hbl hbA hS c_163 dL_law_752 ?_
                                                obtain ⟨a_164, ha_164, hf⟩ := bd_e hf
                                                refine Ct.callVg (As := [.int (xs ((q18.1 + (1 : Int32))).toNatClampNeg)]) (rest := []) (st1 := [.int a_164.1]) ⟨Nat.le_of_ble_eq_true rfl, Nat.le_of_ble_eq_true rfl⟩ (c_X4_spree l D cI A q18.2.1 q18.2.2.1 q18.2.2.2.1 q18.2.2.2.2.1 q18.2.2.2.2.2.1 q18.2.2.2.2.2.2.1 q18.2.2.2.2.2.2.2.1 (xs ((q18.1 + (1 : Int32))).toNatClampNeg) a_164 ha_164) hx hb hml hown hts (cwV 1 hts gL_law_X4_spree rfl rfl rfl hd_X4_spree ⟨Nat.le_of_ble_eq_true rfl, Nat.le_of_ble_eq_true rfl⟩) (va_recv hK hP (ci := 4) (q0 := 0) rfl cL_at0) ln_L_X hA hK hP hD hS rfl hl.1 rfl rfl (Nat.le_of_ble_eq_true rfl) dL_law_753 (fun H locs hP hD hS => ?_)
                                                replace hP : va_P D vwCl (cL cI A B q18.2.1 a_164.2.1 q18.2.2.2.1 q18.2.2.2.2.1 q18.2.2.2.2.2.1 q18.2.2.2.2.2.2.1 a_164.2.2 q18.2.2.2.2.2.2.2.2) H := hP
                                                replace hD : va_D (fun q : Nat => s.heap.size ≤ q) (cL cI A B q18.2.1 a_164.2.1 q18.2.2.2.1 q18.2.2.2.2.1 q18.2.2.2.2.2.1 q18.2.2.2.2.2.2.1 a_164.2.2 q18.2.2.2.2.2.2.2.2) := hD
                                                refine lv_aload_n hx hb dL_law_756 rfl (lv_at hl 2 rfl) ?_
                                                refine lv_aload_n hx hb dL_law_757 rfl (lv_at hl 0 rfl) ?_
                                                refine lv_iload_n hx hb dL_law_758 rfl (lv_at hl 3 rfl) ?_
                                                refine lv_iconst (v := 1) hx hb dL_law_759 (by decide) ?_
                                                refine lv_iadd hx hb dL_law_760 ?_
                                                obtain ⟨c_165, hf⟩ := gi_e hf
                                                refine va_sld hx hb hX hbl hbA hS c_165 dL_law_761 ?_
                                                obtain ⟨a_166, ha_166, hf⟩ := bd_e hf
                                                refine Ct.callVg (As := [.int (xs ((q18.1 + (1 : Int32))).toNatClampNeg)]) (rest := [.int a_164.1]) (st1 := [.int a_166.1, .int a_164.1]) ⟨Nat.le_of_ble_eq_true rfl, Nat.le_of_ble_eq_true rfl⟩ (c_X5_spree l D cI B q18.2.2.2.2.2.2.2.2 (xs ((q18.1 + (1 : Int32))).toNatClampNeg) a_166 ha_166) hx hb hml hown hts (cwV 1 hts gL_law_X5_spree rfl rfl rfl hd_X5_spree ⟨Nat.le_of_ble_eq_true rfl, Nat.le_of_ble_eq_true rfl⟩) (va_recv hK hP (ci := 5) (q0 := 34) rfl cL_at34) ln_L_M hA hK hP hD hS rfl hl.1 rfl rfl (Nat.le_of_ble_eq_true rfl) dL_law_762 (fun H locs hP hD hS => ?_)
                                                replace hP : va_P D vwCl (cL cI A B q18.2.1 a_164.2.1 q18.2.2.2.1 q18.2.2.2.2.1 q18.2.2.2.2.2.1 q18.2.2.2.2.2.2.1 a_164.2.2 a_166.2) H := hP
                                                replace hD : va_D (fun q : Nat => s.heap.size ≤ q) (cL cI A B q18.2.1 a_164.2.1 q18.2.2.2.1 q18.2.2.2.2.1 q18.2.2.2.2.2.1 q18.2.2.2.2.2.2.1 a_164.2.2 a_166.2) := hD
                                                refine lv_icmp_eq (tgt := 1163) hx hb dL_law_765 (by decide) (fun c_167 => ?_) (fun c_167 => ?_)
                                                · replace hf := if_t c_167 hf
                                                  obtain ⟨v_168, ev_168, hf⟩ := nq_e hf
                                                  refine lv_iinc (v := v_168) (lv' := [(3, .int v_168), (0, .ref b), (1, .ref (A 0)), (2, .ref (B 0))]) hx hb dL_law_1163 hl (k := 3) rfl (by rw [ev_168]; rfl) (by decide) rfl (fun ls hl => ?_)
                                                  refine lv_goto (tgt := 18) hx hb dL_law_1166 (by decide) ?_
                                                  exact ih18 (v_168, q18.2.1, a_164.2.1, q18.2.2.2.1, q18.2.2.2.2.1, q18.2.2.2.2.2.1, q18.2.2.2.2.2.2.1, a_164.2.2, a_166.2) hf H locs ls hP hD hS (lv_sub hl [1, 2, 3, 0] rfl)
                                                · replace hf := if_f c_167 hf
                                                  refine lv_iconst (v := 0) hx hb dL_law_768 (by decide) ?_
                                                  exact absurd (Option.some.inj hf) (by decide)
                                              · replace hf := if_f c_162 hf
                                                by_cases c_169 : ((xs (q18.1).toNatClampNeg) &&& (63 : Int32)) = 22
                                                · replace hf := if_t c_169 hf
                                                  refine lv_tableIn (off := 738) (tgt := 770) hx hb dL_law_32 (by rw [c_169]; decide +kernel) (by rw [c_169]; decide +kernel) (by rw [c_169]; decide +kernel) (by decide) ?_
                                                  refine lv_aload_n hx hb dL_law_770 rfl (lv_at hl 1 rfl) ?_
                                                  refine lv_aload_n hx hb dL_law_771 rfl (lv_at hl 0 rfl) ?_
                                                  refine lv_iload_n hx hb dL_law_772 rfl (lv_at hl 3 rfl) ?_
                                                  refine lv_iconst (v := 1) hx hb dL_law_773 (by decide) ?_
                                                  refine lv_iadd hx hb dL_law_774 ?_
                                                  obtain ⟨c_170, hf⟩ := gi_e hf
                                                  refine va_sld hx hb hX hbl hbA hS c_170 dL_law_775 ?_
                                                  obtain ⟨a_171, ha_171, hf⟩ := bd_e hf
                                                  refine Ct.callVg (As := [.int (xs ((q18.1 + (1 : Int32))).toNatClampNeg)]) (rest := []) (st1 := [.int a_171.1]) ⟨Nat.le_of_ble_eq_true rfl, Nat.le_of_ble_eq_true rfl⟩ (c_X4_keep l D cI A q18.2.1 q18.2.2.1 q18.2.2.2.1 q18.2.2.2.2.1 q18.2.2.2.2.2.1 q18.2.2.2.2.2.2.1 q18.2.2.2.2.2.2.2.1 (xs ((q18.1 + (1 : Int32))).toNatClampNeg) a_171 ha_171) hx hb hml hown hts (cwV 1 hts gL_law_X4_keep rfl rfl rfl hd_X4_keep ⟨Nat.le_of_ble_eq_true rfl, Nat.le_of_ble_eq_true rfl⟩) (va_recv hK hP (ci := 4) (q0 := 0) rfl cL_at0) ln_L_X hA hK hP hD hS rfl hl.1 rfl rfl (Nat.le_of_ble_eq_true rfl) dL_law_776 (fun H locs hP hD hS => ?_)
                                                  replace hP : va_P D vwCl (cL cI A B q18.2.1 a_171.2.1 q18.2.2.2.1 q18.2.2.2.2.1 q18.2.2.2.2.2.1 q18.2.2.2.2.2.2.1 a_171.2.2 q18.2.2.2.2.2.2.2.2) H := hP
                                                  replace hD : va_D (fun q : Nat => s.heap.size ≤ q) (cL cI A B q18.2.1 a_171.2.1 q18.2.2.2.1 q18.2.2.2.2.1 q18.2.2.2.2.2.1 q18.2.2.2.2.2.2.1 a_171.2.2 q18.2.2.2.2.2.2.2.2) := hD
                                                  refine lv_aload_n hx hb dL_law_779 rfl (lv_at hl 2 rfl) ?_
                                                  refine lv_aload_n hx hb dL_law_780 rfl (lv_at hl 0 rfl) ?_
                                                  refine lv_iload_n hx hb dL_law_781 rfl (lv_at hl 3 rfl) ?_
                                                  refine lv_iconst (v := 1) hx hb dL_law_782 (by decide) ?_
                                                  refine lv_iadd hx hb dL_law_783 ?_
                                                  obtain ⟨c_172, hf⟩ := gi_e hf
                                                  refine va_sld hx hb hX hbl hbA hS c_172 dL_law_784 ?_
                                                  obtain ⟨a_173, ha_173, hf⟩ := bd_e hf
                                                  refine Ct.callVg (As := [.int (xs ((q18.1 + (1 : Int32))).toNatClampNeg)]) (rest := [.int a_171.1]) (st1 := [.int a_173.1, .int a_171.1]) ⟨Nat.le_of_ble_eq_true rfl, Nat.le_of_ble_eq_true rfl⟩ (c_X5_keep l D cI B q18.2.2.2.2.2.2.2.2 (xs ((q18.1 + (1 : Int32))).toNatClampNeg) a_173 ha_173) hx hb hml hown hts (cwV 1 hts gL_law_X5_keep rfl rfl rfl hd_X5_keep ⟨Nat.le_of_ble_eq_true rfl, Nat.le_of_ble_eq_true rfl⟩) (va_recv hK hP (ci := 5) (q0 := 34) rfl cL_at34) ln_L_M hA hK hP hD hS rfl hl.1 rfl rfl (Nat.le_of_ble_eq_true rfl) dL_law_785 (fun H locs hP hD hS => ?_)
                                                  replace hP : va_P D vwCl (cL cI A B q18.2.1 a_171.2.1 q18.2.2.2.1 q18.2.2.2.2.1 q18.2.2.2.2.2.1 q18.2.2.2.2.2.2.1 a_171.2.2 a_173.2) H := hP
                                                  replace hD : va_D (fun q : Nat => s.heap.size ≤ q) (cL cI A B q18.2.1 a_171.2.1 q18.2.2.2.1 q18.2.2.2.2.1 q18.2.2.2.2.2.1 q18.2.2.2.2.2.2.1 a_171.2.2 a_173.2) := hD
                                                  refine lv_icmp_eq (tgt := 1163) hx hb dL_law_788 (by decide) (fun c_174 => ?_) (fun c_174 => ?_)
                                                  · replace hf := if_t c_174 hf
                                                    obtain ⟨v_175, ev_175, hf⟩ := nq_e hf
                                                    refine lv_iinc (v := v_175) (lv' := [(3, .int v_175), (0, .ref b), (1, .ref (A 0)), (2, .ref (B 0))]) hx hb dL_law_1163 hl (k := 3) rfl (by rw [ev_175]; rfl) (by decide) rfl (fun ls hl => ?_)
                                                    refine lv_goto (tgt := 18) hx hb dL_law_1166 (by decide) ?_
                                                    exact ih18 (v_175, q18.2.1, a_171.2.1, q18.2.2.2.1, q18.2.2.2.2.1, q18.2.2.2.2.2.1, q18.2.2.2.2.2.2.1, a_171.2.2, a_173.2) hf H locs ls hP hD hS (lv_sub hl [1, 2, 3, 0] rfl)
                                                  · replace hf := if_f c_174 hf
                                                    refine lv_iconst (v := 0) hx hb dL_law_791 (by decide) ?_
                                                    exact absurd (Option.some.inj hf) (by decide)
                                                · replace hf := if_f c_169 hf
                                                  by_cases c_176 : ((xs (q18.1).toNatClampNeg) &&& (63 : Int32)) = 23
                                                  · replace hf := if_t c_176 hf
                                                    refine lv_tableIn (off := 761) (tgt := 793) hx hb dL_law_32 (by rw [c_176]; decide +kernel) (by rw [c_176]; decide +kernel) (by rw [c_176]; decide +kernel) (by decide) ?_
                                                    refine lv_aload_n hx hb dL_law_793 rfl (lv_at hl 1 rfl) ?_
                                                    refine lv_aload_n hx hb dL_law_794 rfl (lv_at hl 0 rfl) ?_
                                                    refine lv_iload_n hx hb dL_law_795 rfl (lv_at hl 3 rfl) ?_
                                                    refine lv_iconst (v := 1) hx hb dL_law_796 (by decide) ?_
                                                    refine lv_iadd hx hb dL_law_797 ?_
                                                    obtain ⟨c_177, hf⟩ := gi_e hf
                                                    refine va_sld hx hb hX hbl hbA hS c_177 dL_law_798 ?_
                                                    obtain ⟨a_178, ha_178, hf⟩ := bd_e hf
                                                    refine Ct.callVg (As := [.int (xs ((q18.1 + (1 : Int32))).toNatClampNeg)]) (rest := []) (st1 := [.int a_178.1]) ⟨Nat.le_of_ble_eq_true rfl, Nat.le_of_ble_eq_true rfl⟩ (c_X4_richest l D cI A q18.2.1 q18.2.2.1 q18.2.2.2.1 q18.2.2.2.2.1 q18.2.2.2.2.2.1 q18.2.2.2.2.2.2.1 q18.2.2.2.2.2.2.2.1 (xs ((q18.1 + (1 : Int32))).toNatClampNeg) a_178 ha_178) hx hb hml hown hts (cwV 1 hts gL_law_X4_richest rfl rfl rfl hd_X4_richest ⟨Nat.le_of_ble_eq_true rfl, Nat.le_of_ble_eq_true rfl⟩) (va_recv hK hP (ci := 4) (q0 := 0) rfl cL_at0) ln_L_X hA hK hP hD hS rfl hl.1 rfl rfl (Nat.le_of_ble_eq_true rfl) dL_law_799 (fun H locs hP hD hS => ?_)
                                                    replace hP : va_P D vwCl (cL cI A B q18.2.1 q18.2.2.1 q18.2.2.2.1 q18.2.2.2.2.1 q18.2.2.2.2.2.1 q18.2.2.2.2.2.2.1 a_178.2 q18.2.2.2.2.2.2.2.2) H := hP
                                                    replace hD : va_D (fun q : Nat => s.heap.size ≤ q) (cL cI A B q18.2.1 q18.2.2.1 q18.2.2.2.1 q18.2.2.2.2.1 q18.2.2.2.2.2.1 q18.2.2.2.2.2.2.1 a_178.2 q18.2.2.2.2.2.2.2.2) := hD
                                                    refine lv_aload_n hx hb dL_law_802 rfl (lv_at hl 2 rfl) ?_
                                                    refine lv_aload_n hx hb dL_law_803 rfl (lv_at hl 0 rfl) ?_
                                                    refine lv_iload_n hx hb dL_law_804 rfl (lv_at hl 3 rfl) ?_
                                                    refine lv_iconst (v := 1) hx hb dL_law_805 (by decide) ?_
                                                    refine lv_iadd hx hb dL_law_806 ?_
                                                    obtain ⟨c_179, hf⟩ := gi_e hf
                                                    refine va_sld hx hb hX hbl hbA hS c_179 dL_law_807 ?_
                                                    obtain ⟨a_180, ha_180, hf⟩ := bd_e hf
                                                    refine Ct.callVg (As := [.int (xs ((q18.1 + (1 : Int32))).toNatClampNeg)]) (rest := [.int a_178.1]) (st1 := [.int a_180.1, .int a_178.1]) ⟨Nat.le_of_ble_eq_true rfl, Nat.le_of_ble_eq_true rfl⟩ (c_X5_richest l D cI B q18.2.2.2.2.2.2.2.2 (xs ((q18.1 + (1 : Int32))).toNatClampNeg) a_180 ha_180) hx hb hml hown hts (cwV 1 hts gL_law_X5_richest rfl rfl rfl hd_X5_richest ⟨Nat.le_of_ble_eq_true rfl, Nat.le_of_ble_eq_true rfl⟩) (va_recv hK hP (ci := 5) (q0 := 34) rfl cL_at34) ln_L_M hA hK hP hD hS rfl hl.1 rfl rfl (Nat.le_of_ble_eq_true rfl) dL_law_808 (fun H locs hP hD hS => ?_)
                                                    replace hP : va_P D vwCl (cL cI A B q18.2.1 q18.2.2.1 q18.2.2.2.1 q18.2.2.2.2.1 q18.2.2.2.2.2.1 q18.2.2.2.2.2.2.1 a_178.2 a_180.2) H := hP
                                                    replace hD : va_D (fun q : Nat => s.heap.size ≤ q) (cL cI A B q18.2.1 q18.2.2.1 q18.2.2.2.1 q18.2.2.2.2.1 q18.2.2.2.2.2.1 q18.2.2.2.2.2.2.1 a_178.2 a_180.2) := hD
                                                    refine lv_icmp_eq (tgt := 1163) hx hb dL_law_811 (by decide) (fun c_181 => ?_) (fun c_181 => ?_)
                                                    · replace hf := if_t c_181 hf
                                                      obtain ⟨v_182, ev_182, hf⟩ := nq_e hf
                                                      refine lv_iinc (v := v_182) (lv' := [(3, .int v_182), (0, .ref b), (1, .ref (A 0)), (2, .ref (B 0))]) hx hb dL_law_1163 hl (k := 3) rfl (by rw [ev_182]; rfl) (by decide) rfl (fun ls hl => ?_)
                                                      refine lv_goto (tgt := 18) hx hb dL_law_1166 (by decide) ?_
                                                      exact ih18 (v_182, q18.2.1, q18.2.2.1, q18.2.2.2.1, q18.2.2.2.2.1, q18.2.2.2.2.2.1, q18.2.2.2.2.2.2.1, a_178.2, a_180.2) hf H locs ls hP hD hS (lv_sub hl [1, 2, 3, 0] rfl)
                                                    · replace hf := if_f c_181 hf
                                                      refine lv_iconst (v := 0) hx hb dL_law_814 (by decide) ?_
                                                      exact absurd (Option.some.inj hf) (by decide)
                                                  · replace hf := if_f c_176 hf
                                                    by_cases c_183 : ((xs (q18.1).toNatClampNeg) &&& (63 : Int32)) = 24
                                                    · replace hf := if_t c_183 hf
                                                      refine lv_tableIn (off := 784) (tgt := 816) hx hb dL_law_32 (by rw [c_183]; decide +kernel) (by rw [c_183]; decide +kernel) (by rw [c_183]; decide +kernel) (by decide) ?_
                                                      refine lv_aload_n hx hb dL_law_816 rfl (lv_at hl 1 rfl) ?_
                                                      obtain ⟨a_184, ha_184, hf⟩ := bd_e hf
                                                      refine Ct.callVg (As := []) (rest := []) (st1 := [.int a_184]) ⟨Nat.le_of_ble_eq_true rfl, Nat.le_of_ble_eq_true rfl⟩ (c_X4_blameless l D cI A q18.2.1 q18.2.2.1 q18.2.2.2.1 q18.2.2.2.2.1 q18.2.2.2.2.2.1 q18.2.2.2.2.2.2.1 q18.2.2.2.2.2.2.2.1 a_184 ha_184) hx hb hml hown hts (cwV 0 hts gL_law_X4_blameless rfl rfl rfl hd_X4_blameless ⟨Nat.le_of_ble_eq_true rfl, Nat.le_of_ble_eq_true rfl⟩) (va_recv hK hP (ci := 4) (q0 := 0) rfl cL_at0) ln_L_X hA hK hP hD hS rfl hl.1 rfl rfl (Nat.le_of_ble_eq_true rfl) dL_law_817 (fun H locs hP hD hS => ?_)
                                                      refine lv_aload_n hx hb dL_law_820 rfl (lv_at hl 2 rfl) ?_
                                                      obtain ⟨a_185, ha_185, hf⟩ := bd_e hf
                                                      refine Ct.callVg (As := []) (rest := [.int a_184]) (st1 := [.int a_185, .int a_184]) ⟨Nat.le_of_ble_eq_true rfl, Nat.le_of_ble_eq_true rfl⟩ (c_X5_blameless l D cI B q18.2.2.2.2.2.2.2.2 a_185 ha_185) hx hb hml hown hts (cwV 0 hts gL_law_X5_blameless rfl rfl rfl hd_X5_blameless ⟨Nat.le_of_ble_eq_true rfl, Nat.le_of_ble_eq_true rfl⟩) (va_recv hK hP (ci := 5) (q0 := 34) rfl cL_at34) ln_L_M hA hK hP hD hS rfl hl.1 rfl rfl (Nat.le_of_ble_eq_true rfl) dL_law_821 (fun H locs hP hD hS => ?_)
                                                      refine lv_icmp_eq (tgt := 1163) hx hb dL_law_824 (by decide) (fun c_186 => ?_) (fun c_186 => ?_)
                                                      · replace hf := if_t c_186 hf
                                                        obtain ⟨v_187, ev_187, hf⟩ := nq_e hf
                                                        refine lv_iinc (v := v_187) (lv' := [(3, .int v_187), (0, .ref b), (1, .ref (A 0)), (2, .ref (B 0))]) hx hb dL_law_1163 hl (k := 3) rfl (by rw [ev_187]; rfl) (by decide) rfl (fun ls hl => ?_)
                                                        refine lv_goto (tgt := 18) hx hb dL_law_1166 (by decide) ?_
                                                        exact ih18 (v_187, q18.2.1, q18.2.2.1, q18.2.2.2.1, q18.2.2.2.2.1, q18.2.2.2.2.2.1, q18.2.2.2.2.2.2.1, q18.2.2.2.2.2.2.2.1, q18.2.2.2.2.2.2.2.2) hf H locs ls hP hD hS (lv_sub hl [1, 2, 3, 0] rfl)
                                                      · replace hf := if_f c_186 hf
                                                        refine lv_iconst (v := 0) hx hb dL_law_827 (by decide) ?_
                                                        exact absurd (Option.some.inj hf) (by decide)
                                                    · replace hf := if_f c_183 hf
                                                      by_cases c_188 : ((xs (q18.1).toNatClampNeg) &&& (63 : Int32)) = 25
                                                      · replace hf := if_t c_188 hf
                                                        refine lv_tableIn (off := 797) (tgt := 829) hx hb dL_law_32 (by rw [c_188]; decide +kernel) (by rw [c_188]; decide +kernel) (by rw [c_188]; decide +kernel) (by decide) ?_
                                                        refine lv_aload_n hx hb dL_law_829 rfl (lv_at hl 1 rfl) ?_
                                                        refine lv_aload_n hx hb dL_law_830 rfl (lv_at hl 0 rfl) ?_
                                                        refine lv_iload_n hx hb dL_law_831 rfl (lv_at hl 3 rfl) ?_
                                                        refine lv_iconst (v := 1) hx hb dL_law_832 (by decide) ?_
                                                        refine lv_iadd hx hb dL_law_833 ?_
                                                        obtain ⟨c_189, hf⟩ := gi_e hf
                                                        refine va_sld hx hb hX hbl hbA hS c_189 dL_law_834 ?_
                                                        obtain ⟨a_190, ha_190, hf⟩ := bd_e hf
                                                        refine Ct.callVg (As := [.int (xs ((q18.1 + (1 : Int32))).toNatClampNeg)]) (rest := []) (st1 := [.int a_190.1]) ⟨Nat.le_of_ble_eq_true rfl, Nat.le_of_ble_eq_true rfl⟩ (c_X4_ebb l D cI A q18.2.1 q18.2.2.1 q18.2.2.2.1 q18.2.2.2.2.1 q18.2.2.2.2.2.1 q18.2.2.2.2.2.2.1 q18.2.2.2.2.2.2.2.1 (xs ((q18.1 + (1 : Int32))).toNatClampNeg) a_190 ha_190) hx hb hml hown hts (cwV 1 hts gL_law_X4_ebb rfl rfl rfl hd_X4_ebb ⟨Nat.le_of_ble_eq_true rfl, Nat.le_of_ble_eq_true rfl⟩) (va_recv hK hP (ci := 4) (q0 := 0) rfl cL_at0) ln_L_X hA hK hP hD hS rfl hl.1 rfl rfl (Nat.le_of_ble_eq_true rfl) dL_law_835 (fun H locs hP hD hS => ?_)
                                                        replace hP : va_P D vwCl (cL cI A B q18.2.1 a_190.2.1 q18.2.2.2.1 q18.2.2.2.2.1 q18.2.2.2.2.2.1 q18.2.2.2.2.2.2.1 a_190.2.2 q18.2.2.2.2.2.2.2.2) H := hP
                                                        replace hD : va_D (fun q : Nat => s.heap.size ≤ q) (cL cI A B q18.2.1 a_190.2.1 q18.2.2.2.1 q18.2.2.2.2.1 q18.2.2.2.2.2.1 q18.2.2.2.2.2.2.1 a_190.2.2 q18.2.2.2.2.2.2.2.2) := hD
                                                        refine lv_aload_n hx hb dL_law_838 rfl (lv_at hl 2 rfl) ?_
                                                        refine lv_aload_n hx hb dL_law_839 rfl (lv_at hl 0 rfl) ?_
                                                        refine lv_iload_n hx hb dL_law_840 rfl (lv_at hl 3 rfl) ?_
                                                        refine lv_iconst (v := 1) hx hb dL_law_841 (by decide) ?_
                                                        refine lv_iadd hx hb dL_law_842 ?_
                                                        obtain ⟨c_191, hf⟩ := gi_e hf
                                                        refine va_sld hx hb hX hbl hbA hS c_191 dL_law_843 ?_
                                                        obtain ⟨a_192, ha_192, hf⟩ := bd_e hf
                                                        refine Ct.callVg (As := [.int (xs ((q18.1 + (1 : Int32))).toNatClampNeg)]) (rest := [.int a_190.1]) (st1 := [.int a_192.1, .int a_190.1]) ⟨Nat.le_of_ble_eq_true rfl, Nat.le_of_ble_eq_true rfl⟩ (c_X5_ebb l D cI B q18.2.2.2.2.2.2.2.2 (xs ((q18.1 + (1 : Int32))).toNatClampNeg) a_192 ha_192) hx hb hml hown hts (cwV 1 hts gL_law_X5_ebb rfl rfl rfl hd_X5_ebb ⟨Nat.le_of_ble_eq_true rfl, Nat.le_of_ble_eq_true rfl⟩) (va_recv hK hP (ci := 5) (q0 := 34) rfl cL_at34) ln_L_M hA hK hP hD hS rfl hl.1 rfl rfl (Nat.le_of_ble_eq_true rfl) dL_law_844 (fun H locs hP hD hS => ?_)
                                                        replace hP : va_P D vwCl (cL cI A B q18.2.1 a_190.2.1 q18.2.2.2.1 q18.2.2.2.2.1 q18.2.2.2.2.2.1 q18.2.2.2.2.2.2.1 a_190.2.2 a_192.2) H := hP
                                                        replace hD : va_D (fun q : Nat => s.heap.size ≤ q) (cL cI A B q18.2.1 a_190.2.1 q18.2.2.2.1 q18.2.2.2.2.1 q18.2.2.2.2.2.1 q18.2.2.2.2.2.2.1 a_190.2.2 a_192.2) := hD
                                                        refine lv_icmp_eq (tgt := 1163) hx hb dL_law_847 (by decide) (fun c_193 => ?_) (fun c_193 => ?_)
                                                        · replace hf := if_t c_193 hf
                                                          obtain ⟨v_194, ev_194, hf⟩ := nq_e hf
                                                          refine lv_iinc (v := v_194) (lv' := [(3, .int v_194), (0, .ref b), (1, .ref (A 0)), (2, .ref (B 0))]) hx hb dL_law_1163 hl (k := 3) rfl (by rw [ev_194]; rfl) (by decide) rfl (fun ls hl => ?_)
                                                          refine lv_goto (tgt := 18) hx hb dL_law_1166 (by decide) ?_
                                                          exact ih18 (v_194, q18.2.1, a_190.2.1, q18.2.2.2.1, q18.2.2.2.2.1, q18.2.2.2.2.2.1, q18.2.2.2.2.2.2.1, a_190.2.2, a_192.2) hf H locs ls hP hD hS (lv_sub hl [1, 2, 3, 0] rfl)
                                                        · replace hf := if_f c_193 hf
                                                          refine lv_iconst (v := 0) hx hb dL_law_850 (by decide) ?_
                                                          exact absurd (Option.some.inj hf) (by decide)
                                                      · replace hf := if_f c_188 hf
                                                        by_cases c_195 : ((xs (q18.1).toNatClampNeg) &&& (63 : Int32)) = 26
                                                        · replace hf := if_t c_195 hf
                                                          refine lv_tableIn (off := 820) (tgt := 852) hx hb dL_law_32 (by rw [c_195]; decide +kernel) (by rw [c_195]; decide +kernel) (by rw [c_195]; decide +kernel) (by decide) ?_
                                                          refine lv_aload_n hx hb dL_law_852 rfl (lv_at hl 1 rfl) ?_
                                                          obtain ⟨a_196, ha_196, hf⟩ := bd_e hf
                                                          refine Ct.callVg (As := []) (rest := []) (st1 := [.int a_196]) ⟨Nat.le_of_ble_eq_true rfl, Nat.le_of_ble_eq_true rfl⟩ (c_X4_missing l D cI A q18.2.1 q18.2.2.1 q18.2.2.2.1 q18.2.2.2.2.1 q18.2.2.2.2.2.1 q18.2.2.2.2.2.2.1 q18.2.2.2.2.2.2.2.1 a_196 ha_196) hx hb hml hown hts (cwV 0 hts gL_law_X4_missing rfl rfl rfl hd_X4_missing ⟨Nat.le_of_ble_eq_true rfl, Nat.le_of_ble_eq_true rfl⟩) (va_recv hK hP (ci := 4) (q0 := 0) rfl cL_at0) ln_L_X hA hK hP hD hS rfl hl.1 rfl rfl (Nat.le_of_ble_eq_true rfl) dL_law_853 (fun H locs hP hD hS => ?_)
                                                          refine lv_aload_n hx hb dL_law_856 rfl (lv_at hl 2 rfl) ?_
                                                          obtain ⟨a_197, ha_197, hf⟩ := bd_e hf
                                                          refine Ct.callVg (As := []) (rest := [.int a_196]) (st1 := [.int a_197, .int a_196]) ⟨Nat.le_of_ble_eq_true rfl, Nat.le_of_ble_eq_true rfl⟩ (c_X5_missing l D cI B q18.2.2.2.2.2.2.2.2 a_197 ha_197) hx hb hml hown hts (cwV 0 hts gL_law_X5_missing rfl rfl rfl hd_X5_missing ⟨Nat.le_of_ble_eq_true rfl, Nat.le_of_ble_eq_true rfl⟩) (va_recv hK hP (ci := 5) (q0 := 34) rfl cL_at34) ln_L_M hA hK hP hD hS rfl hl.1 rfl rfl (Nat.le_of_ble_eq_true rfl) dL_law_857 (fun H locs hP hD hS => ?_)
                                                          refine lv_icmp_eq (tgt := 1163) hx hb dL_law_860 (by decide) (fun c_198 => ?_) (fun c_198 => ?_)
                                                          · replace hf := if_t c_198 hf
                                                            obtain ⟨v_199, ev_199, hf⟩ := nq_e hf
                                                            refine lv_iinc (v := v_199) (lv' := [(3, .int v_199), (0, .ref b), (1, .ref (A 0)), (2, .ref (B 0))]) hx hb dL_law_1163 hl (k := 3) rfl (by rw [ev_199]; rfl) (by decide) rfl (fun ls hl => ?_)
                                                            refine lv_goto (tgt := 18) hx hb dL_law_1166 (by decide) ?_
                                                            exact ih18 (v_199, q18.2.1, q18.2.2.1, q18.2.2.2.1, q18.2.2.2.2.1, q18.2.2.2.2.2.1, q18.2.2.2.2.2.2.1, q18.2.2.2.2.2.2.2.1, q18.2.2.2.2.2.2.2.2) hf H locs ls hP hD hS (lv_sub hl [1, 2, 3, 0] rfl)
                                                          · replace hf := if_f c_198 hf
                                                            refine lv_iconst (v := 0) hx hb dL_law_863 (by decide) ?_
                                                            exact absurd (Option.some.inj hf) (by decide)
                                                        · replace hf := if_f c_195 hf
                                                          by_cases c_200 : ((xs (q18.1).toNatClampNeg) &&& (63 : Int32)) = 27
                                                          · replace hf := if_t c_200 hf
                                                            refine lv_tableIn (off := 833) (tgt := 865) hx hb dL_law_32 (by rw [c_200]; decide +kernel) (by rw [c_200]; decide +kernel) (by rw [c_200]; decide +kernel) (by decide) ?_
                                                            refine lv_aload_n hx hb dL_law_865 rfl (lv_at hl 1 rfl) ?_
                                                            refine lv_aload_n hx hb dL_law_866 rfl (lv_at hl 0 rfl) ?_
                                                            refine lv_iload_n hx hb dL_law_867 rfl (lv_at hl 3 rfl) ?_
                                                            refine lv_iconst (v := 1) hx hb dL_law_868 (by decide) ?_
                                                            refine lv_iadd hx hb dL_law_869 ?_
                                                            obtain ⟨c_201, hf⟩ := gi_e hf
                                                            refine va_sld hx hb hX hbl hbA hS c_201 dL_law_870 ?_
                                                            refine lv_aload_n hx hb dL_law_871 rfl (lv_at hl 0 rfl) ?_
                                                            refine lv_iload_n hx hb dL_law_872 rfl (lv_at hl 3 rfl) ?_
                                                            refine lv_iconst (v := 2) hx hb dL_law_873 (by decide) ?_
                                                            refine lv_iadd hx hb dL_law_874 ?_
                                                            obtain ⟨c_202, hf⟩ := gi_e hf
                                                            refine va_sld hx hb hX hbl hbA hS c_202 dL_law_875 ?_
                                                            obtain ⟨a_203, ha_203, hf⟩ := bd_e hf
                                                            refine Ct.callVg (As := [.int (xs ((q18.1 + (1 : Int32))).toNatClampNeg), .int (xs ((q18.1 + (2 : Int32))).toNatClampNeg)]) (rest := []) (st1 := [.int a_203.1]) ⟨Nat.le_of_ble_eq_true rfl, Nat.le_of_ble_eq_true rfl⟩ (c_X4_two l D cI A q18.2.1 q18.2.2.1 q18.2.2.2.1 q18.2.2.2.2.1 q18.2.2.2.2.2.1 q18.2.2.2.2.2.2.1 q18.2.2.2.2.2.2.2.1 (xs ((q18.1 + (1 : Int32))).toNatClampNeg) (xs ((q18.1 + (2 : Int32))).toNatClampNeg) a_203 ha_203) hx hb hml hown hts (cwV 2 hts gL_law_X4_two rfl rfl rfl hd_X4_two ⟨Nat.le_of_ble_eq_true rfl, Nat.le_of_ble_eq_true rfl⟩) (va_recv hK hP (ci := 4) (q0 := 0) rfl cL_at0) ln_L_X hA hK hP hD hS rfl hl.1 rfl rfl (Nat.le_of_ble_eq_true rfl) dL_law_876 (fun H locs hP hD hS => ?_)
                                                            replace hP : va_P D vwCl (cL cI A B q18.2.1 a_203.2.1 q18.2.2.2.1 q18.2.2.2.2.1 q18.2.2.2.2.2.1 q18.2.2.2.2.2.2.1 a_203.2.2 q18.2.2.2.2.2.2.2.2) H := hP
                                                            replace hD : va_D (fun q : Nat => s.heap.size ≤ q) (cL cI A B q18.2.1 a_203.2.1 q18.2.2.2.1 q18.2.2.2.2.1 q18.2.2.2.2.2.1 q18.2.2.2.2.2.2.1 a_203.2.2 q18.2.2.2.2.2.2.2.2) := hD
                                                            refine lv_aload_n hx hb dL_law_879 rfl (lv_at hl 2 rfl) ?_
                                                            refine lv_aload_n hx hb dL_law_880 rfl (lv_at hl 0 rfl) ?_
                                                            refine lv_iload_n hx hb dL_law_881 rfl (lv_at hl 3 rfl) ?_
                                                            refine lv_iconst (v := 1) hx hb dL_law_882 (by decide) ?_
                                                            refine lv_iadd hx hb dL_law_883 ?_
                                                            obtain ⟨c_204, hf⟩ := gi_e hf
                                                            refine va_sld hx hb hX hbl hbA hS c_204 dL_law_884 ?_
                                                            refine lv_aload_n hx hb dL_law_885 rfl (lv_at hl 0 rfl) ?_
                                                            refine lv_iload_n hx hb dL_law_886 rfl (lv_at hl 3 rfl) ?_
                                                            refine lv_iconst (v := 2) hx hb dL_law_887 (by decide) ?_
                                                            refine lv_iadd hx hb dL_law_888 ?_
                                                            obtain ⟨c_205, hf⟩ := gi_e hf
                                                            refine va_sld hx hb hX hbl hbA hS c_205 dL_law_889 ?_
                                                            obtain ⟨a_206, ha_206, hf⟩ := bd_e hf
                                                            refine Ct.callVg (As := [.int (xs ((q18.1 + (1 : Int32))).toNatClampNeg), .int (xs ((q18.1 + (2 : Int32))).toNatClampNeg)]) (rest := [.int a_203.1]) (st1 := [.int a_206.1, .int a_203.1]) ⟨Nat.le_of_ble_eq_true rfl, Nat.le_of_ble_eq_true rfl⟩ (c_X5_two l D cI B q18.2.2.2.2.2.2.2.2 (xs ((q18.1 + (1 : Int32))).toNatClampNeg) (xs ((q18.1 + (2 : Int32))).toNatClampNeg) a_206 ha_206) hx hb hml hown hts (cwV 2 hts gL_law_X5_two rfl rfl rfl hd_X5_two ⟨Nat.le_of_ble_eq_true rfl, Nat.le_of_ble_eq_true rfl⟩) (va_recv hK hP (ci := 5) (q0 := 34) rfl cL_at34) ln_L_M hA hK hP hD hS rfl hl.1 rfl rfl (Nat.le_of_ble_eq_true rfl) dL_law_890 (fun H locs hP hD hS => ?_)
                                                            replace hP : va_P D vwCl (cL cI A B q18.2.1 a_203.2.1 q18.2.2.2.1 q18.2.2.2.2.1 q18.2.2.2.2.2.1 q18.2.2.2.2.2.2.1 a_203.2.2 a_206.2) H := hP
                                                            replace hD : va_D (fun q : Nat => s.heap.size ≤ q) (cL cI A B q18.2.1 a_203.2.1 q18.2.2.2.1 q18.2.2.2.2.1 q18.2.2.2.2.2.1 q18.2.2.2.2.2.2.1 a_203.2.2 a_206.2) := hD
                                                            refine lv_icmp_eq (tgt := 1163) hx hb dL_law_893 (by decide) (fun c_207 => ?_) (fun c_207 => ?_)
                                                            · replace hf := if_t c_207 hf
                                                              obtain ⟨v_208, ev_208, hf⟩ := nq_e hf
                                                              refine lv_iinc (v := v_208) (lv' := [(3, .int v_208), (0, .ref b), (1, .ref (A 0)), (2, .ref (B 0))]) hx hb dL_law_1163 hl (k := 3) rfl (by rw [ev_208]; rfl) (by decide) rfl (fun ls hl => ?_)
                                                              refine lv_goto (tgt := 18) hx hb dL_law_1166 (by decide) ?_
                                                              exact ih18 (v_208, q18.2.1, a_203.2.1, q18.2.2.2.1, q18.2.2.2.2.1, q18.2.2.2.2.2.1, q18.2.2.2.2.2.2.1, a_203.2.2, a_206.2) hf H locs ls hP hD hS (lv_sub hl [1, 2, 3, 0] rfl)
                                                            · replace hf := if_f c_207 hf
                                                              refine lv_iconst (v := 0) hx hb dL_law_896 (by decide) ?_
                                                              exact absurd (Option.some.inj hf) (by decide)
                                                          · replace hf := if_f c_200 hf
                                                            by_cases c_209 : ((xs (q18.1).toNatClampNeg) &&& (63 : Int32)) = 28
                                                            · replace hf := if_t c_209 hf
                                                              refine lv_tableIn (off := 866) (tgt := 898) hx hb dL_law_32 (by rw [c_209]; decide +kernel) (by rw [c_209]; decide +kernel) (by rw [c_209]; decide +kernel) (by decide) ?_
                                                              refine lv_aload_n hx hb dL_law_898 rfl (lv_at hl 1 rfl) ?_
                                                              refine lv_aload_n hx hb dL_law_899 rfl (lv_at hl 0 rfl) ?_
                                                              refine lv_iload_n hx hb dL_law_900 rfl (lv_at hl 3 rfl) ?_
                                                              refine lv_iconst (v := 1) hx hb dL_law_901 (by decide) ?_
                                                              refine lv_iadd hx hb dL_law_902 ?_
                                                              obtain ⟨c_210, hf⟩ := gi_e hf
                                                              refine va_sld hx hb hX hbl hbA hS c_210 dL_law_903 ?_
                                                              refine lv_aload_n hx hb dL_law_904 rfl (lv_at hl 0 rfl) ?_
                                                              refine lv_iload_n hx hb dL_law_905 rfl (lv_at hl 3 rfl) ?_
                                                              refine lv_iconst (v := 2) hx hb dL_law_906 (by decide) ?_
                                                              refine lv_iadd hx hb dL_law_907 ?_
                                                              obtain ⟨c_211, hf⟩ := gi_e hf
                                                              refine va_sld hx hb hX hbl hbA hS c_211 dL_law_908 ?_
                                                              refine lv_aload_n hx hb dL_law_909 rfl (lv_at hl 0 rfl) ?_
                                                              refine lv_iload_n hx hb dL_law_910 rfl (lv_at hl 3 rfl) ?_
                                                              refine lv_iconst (v := 3) hx hb dL_law_911 (by decide) ?_
                                                              refine lv_iadd hx hb dL_law_912 ?_
                                                              obtain ⟨c_212, hf⟩ := gi_e hf
                                                              refine va_sld hx hb hX hbl hbA hS c_212 dL_law_913 ?_
                                                              refine lv_aload_n hx hb dL_law_914 rfl (lv_at hl 0 rfl) ?_
                                                              refine lv_iload_n hx hb dL_law_915 rfl (lv_at hl 3 rfl) ?_
                                                              refine lv_iconst (v := 4) hx hb dL_law_916 (by decide) ?_
                                                              refine lv_iadd hx hb dL_law_917 ?_
                                                              obtain ⟨c_213, hf⟩ := gi_e hf
                                                              refine va_sld hx hb hX hbl hbA hS c_213 dL_law_918 ?_
                                                              obtain ⟨a_214, ha_214, hf⟩ := bd_e hf
                                                              refine Ct.callVg (As := [.int (xs ((q18.1 + (1 : Int32))).toNatClampNeg), .int (xs ((q18.1 + (2 : Int32))).toNatClampNeg), .int (xs ((q18.1 + (3 : Int32))).toNatClampNeg), .int (xs ((q18.1 + (4 : Int32))).toNatClampNeg)]) (rest := []) (st1 := [.long a_214.1]) ⟨Nat.le_of_ble_eq_true rfl, Nat.le_of_ble_eq_true rfl⟩ (c_X4_storm l D cI A q18.2.1 q18.2.2.1 q18.2.2.2.1 q18.2.2.2.2.1 q18.2.2.2.2.2.1 q18.2.2.2.2.2.2.1 q18.2.2.2.2.2.2.2.1 (xs ((q18.1 + (1 : Int32))).toNatClampNeg) (xs ((q18.1 + (2 : Int32))).toNatClampNeg) (xs ((q18.1 + (3 : Int32))).toNatClampNeg) (xs ((q18.1 + (4 : Int32))).toNatClampNeg) a_214 ha_214) hx hb hml hown hts (cwV 4 hts gL_law_X4_storm rfl rfl rfl hd_X4_storm ⟨Nat.le_of_ble_eq_true rfl, Nat.le_of_ble_eq_true rfl⟩) (va_recv hK hP (ci := 4) (q0 := 0) rfl cL_at0) ln_L_X hA hK hP hD hS rfl hl.1 rfl rfl (Nat.le_of_ble_eq_true rfl) dL_law_919 (fun H locs hP hD hS => ?_)
                                                              replace hP : va_P D vwCl (cL cI A B q18.2.1 a_214.2.1 q18.2.2.2.1 q18.2.2.2.2.1 q18.2.2.2.2.2.1 q18.2.2.2.2.2.2.1 a_214.2.2 q18.2.2.2.2.2.2.2.2) H := hP
                                                              replace hD : va_D (fun q : Nat => s.heap.size ≤ q) (cL cI A B q18.2.1 a_214.2.1 q18.2.2.2.1 q18.2.2.2.2.1 q18.2.2.2.2.2.1 q18.2.2.2.2.2.2.1 a_214.2.2 q18.2.2.2.2.2.2.2.2) := hD
                                                              refine lv_aload_n hx hb dL_law_922 rfl (lv_at hl 2 rfl) ?_
                                                              refine lv_aload_n hx hb dL_law_923 rfl (lv_at hl 0 rfl) ?_
                                                              refine lv_iload_n hx hb dL_law_924 rfl (lv_at hl 3 rfl) ?_
                                                              refine lv_iconst (v := 1) hx hb dL_law_925 (by decide) ?_
                                                              refine lv_iadd hx hb dL_law_926 ?_
                                                              obtain ⟨c_215, hf⟩ := gi_e hf
                                                              refine va_sld hx hb hX hbl hbA hS c_215 dL_law_927 ?_
                                                              refine lv_aload_n hx hb dL_law_928 rfl (lv_at hl 0 rfl) ?_
                                                              refine lv_iload_n hx hb dL_law_929 rfl (lv_at hl 3 rfl) ?_
                                                              refine lv_iconst (v := 2) hx hb dL_law_930 (by decide) ?_
                                                              refine lv_iadd hx hb dL_law_931 ?_
                                                              obtain ⟨c_216, hf⟩ := gi_e hf
                                                              refine va_sld hx hb hX hbl hbA hS c_216 dL_law_932 ?_
                                                              refine lv_aload_n hx hb dL_law_933 rfl (lv_at hl 0 rfl) ?_
                                                              refine lv_iload_n hx hb dL_law_934 rfl (lv_at hl 3 rfl) ?_
                                                              refine lv_iconst (v := 3) hx hb dL_law_935 (by decide) ?_
                                                              refine lv_iadd hx hb dL_law_936 ?_
                                                              obtain ⟨c_217, hf⟩ := gi_e hf
                                                              refine va_sld hx hb hX hbl hbA hS c_217 dL_law_937 ?_
                                                              refine lv_aload_n hx hb dL_law_938 rfl (lv_at hl 0 rfl) ?_
                                                              refine lv_iload_n hx hb dL_law_939 rfl (lv_at hl 3 rfl) ?_
                                                              refine lv_iconst (v := 4) hx hb dL_law_940 (by decide) ?_
                                                              refine lv_iadd hx hb dL_law_941 ?_
                                                              obtain ⟨c_218, hf⟩ := gi_e hf
                                                              refine va_sld hx hb hX hbl hbA hS c_218 dL_law_942 ?_
                                                              obtain ⟨a_219, ha_219, hf⟩ := bd_e hf
                                                              refine Ct.callVg (As := [.int (xs ((q18.1 + (1 : Int32))).toNatClampNeg), .int (xs ((q18.1 + (2 : Int32))).toNatClampNeg), .int (xs ((q18.1 + (3 : Int32))).toNatClampNeg), .int (xs ((q18.1 + (4 : Int32))).toNatClampNeg)]) (rest := [.long a_214.1]) (st1 := [.long a_219.1, .long a_214.1]) ⟨Nat.le_of_ble_eq_true rfl, Nat.le_of_ble_eq_true rfl⟩ (c_X5_storm l D cI B q18.2.2.2.2.2.2.2.2 (xs ((q18.1 + (1 : Int32))).toNatClampNeg) (xs ((q18.1 + (2 : Int32))).toNatClampNeg) (xs ((q18.1 + (3 : Int32))).toNatClampNeg) (xs ((q18.1 + (4 : Int32))).toNatClampNeg) a_219 ha_219) hx hb hml hown hts (cwV 4 hts gL_law_X5_storm rfl rfl rfl hd_X5_storm ⟨Nat.le_of_ble_eq_true rfl, Nat.le_of_ble_eq_true rfl⟩) (va_recv hK hP (ci := 5) (q0 := 34) rfl cL_at34) ln_L_M hA hK hP hD hS rfl hl.1 rfl rfl (Nat.le_of_ble_eq_true rfl) dL_law_943 (fun H locs hP hD hS => ?_)
                                                              replace hP : va_P D vwCl (cL cI A B q18.2.1 a_214.2.1 q18.2.2.2.1 q18.2.2.2.2.1 q18.2.2.2.2.2.1 q18.2.2.2.2.2.2.1 a_214.2.2 a_219.2) H := hP
                                                              replace hD : va_D (fun q : Nat => s.heap.size ≤ q) (cL cI A B q18.2.1 a_214.2.1 q18.2.2.2.1 q18.2.2.2.2.1 q18.2.2.2.2.2.1 q18.2.2.2.2.2.2.1 a_214.2.2 a_219.2) := hD
                                                              refine W.lcmp hx hb dL_law_946 ?_
                                                              refine lv_if_eq (tgt := 1163) hx hb dL_law_947 (by decide) (fun c_220 => ?_) (fun c_220 => ?_)
                                                              · replace hf := if_t c_220 hf
                                                                obtain ⟨v_221, ev_221, hf⟩ := nq_e hf
                                                                refine lv_iinc (v := v_221) (lv' := [(3, .int v_221), (0, .ref b), (1, .ref (A 0)), (2, .ref (B 0))]) hx hb dL_law_1163 hl (k := 3) rfl (by rw [ev_221]; rfl) (by decide) rfl (fun ls hl => ?_)
                                                                refine lv_goto (tgt := 18) hx hb dL_law_1166 (by decide) ?_
                                                                exact ih18 (v_221, q18.2.1, a_214.2.1, q18.2.2.2.1, q18.2.2.2.2.1, q18.2.2.2.2.2.1, q18.2.2.2.2.2.2.1, a_214.2.2, a_219.2) hf H locs ls hP hD hS (lv_sub hl [1, 2, 3, 0] rfl)
                                                              · replace hf := if_f c_220 hf
                                                                refine lv_iconst (v := 0) hx hb dL_law_950 (by decide) ?_
                                                                exact absurd (Option.some.inj hf) (by decide)
                                                            · replace hf := if_f c_209 hf
                                                              by_cases c_222 : ((xs (q18.1).toNatClampNeg) &&& (63 : Int32)) = 29
                                                              · replace hf := if_t c_222 hf
                                                                refine lv_tableIn (off := 920) (tgt := 952) hx hb dL_law_32 (by rw [c_222]; decide +kernel) (by rw [c_222]; decide +kernel) (by rw [c_222]; decide +kernel) (by decide) ?_
                                                                refine lv_aload_n hx hb dL_law_952 rfl (lv_at hl 1 rfl) ?_
                                                                refine lv_aload_n hx hb dL_law_953 rfl (lv_at hl 0 rfl) ?_
                                                                refine lv_iload_n hx hb dL_law_954 rfl (lv_at hl 3 rfl) ?_
                                                                refine lv_iconst (v := 1) hx hb dL_law_955 (by decide) ?_
                                                                refine lv_iadd hx hb dL_law_956 ?_
                                                                obtain ⟨c_223, hf⟩ := gi_e hf
                                                                refine va_sld hx hb hX hbl hbA hS c_223 dL_law_957 ?_
                                                                obtain ⟨a_224, ha_224, hf⟩ := bd_e hf
                                                                refine Ct.callVg (As := [.int (xs ((q18.1 + (1 : Int32))).toNatClampNeg)]) (rest := []) (st1 := [.long a_224.1]) ⟨Nat.le_of_ble_eq_true rfl, Nat.le_of_ble_eq_true rfl⟩ (c_X4_mean l D cI A q18.2.1 q18.2.2.1 q18.2.2.2.1 q18.2.2.2.2.1 q18.2.2.2.2.2.1 q18.2.2.2.2.2.2.1 q18.2.2.2.2.2.2.2.1 (xs ((q18.1 + (1 : Int32))).toNatClampNeg) a_224 ha_224) hx hb hml hown hts (cwV 1 hts gL_law_X4_mean rfl rfl rfl hd_X4_mean ⟨Nat.le_of_ble_eq_true rfl, Nat.le_of_ble_eq_true rfl⟩) (va_recv hK hP (ci := 4) (q0 := 0) rfl cL_at0) ln_L_X hA hK hP hD hS rfl hl.1 rfl rfl (Nat.le_of_ble_eq_true rfl) dL_law_958 (fun H locs hP hD hS => ?_)
                                                                replace hP : va_P D vwCl (cL cI A B q18.2.1 q18.2.2.1 q18.2.2.2.1 q18.2.2.2.2.1 q18.2.2.2.2.2.1 q18.2.2.2.2.2.2.1 a_224.2 q18.2.2.2.2.2.2.2.2) H := hP
                                                                replace hD : va_D (fun q : Nat => s.heap.size ≤ q) (cL cI A B q18.2.1 q18.2.2.1 q18.2.2.2.1 q18.2.2.2.2.1 q18.2.2.2.2.2.1 q18.2.2.2.2.2.2.1 a_224.2 q18.2.2.2.2.2.2.2.2) := hD
                                                                refine lv_aload_n hx hb dL_law_961 rfl (lv_at hl 2 rfl) ?_
                                                                refine lv_aload_n hx hb dL_law_962 rfl (lv_at hl 0 rfl) ?_
                                                                refine lv_iload_n hx hb dL_law_963 rfl (lv_at hl 3 rfl) ?_
                                                                refine lv_iconst (v := 1) hx hb dL_law_964 (by decide) ?_
                                                                refine lv_iadd hx hb dL_law_965 ?_
                                                                obtain ⟨c_225, hf⟩ := gi_e hf
                                                                refine va_sld hx hb hX hbl hbA hS c_225 dL_law_966 ?_
                                                                obtain ⟨a_226, ha_226, hf⟩ := bd_e hf
                                                                refine Ct.callVg (As := [.int (xs ((q18.1 + (1 : Int32))).toNatClampNeg)]) (rest := [.long a_224.1]) (st1 := [.long a_226.1, .long a_224.1]) ⟨Nat.le_of_ble_eq_true rfl, Nat.le_of_ble_eq_true rfl⟩ (c_X5_mean l D cI B q18.2.2.2.2.2.2.2.2 (xs ((q18.1 + (1 : Int32))).toNatClampNeg) a_226 ha_226) hx hb hml hown hts (cwV 1 hts gL_law_X5_mean rfl rfl rfl hd_X5_mean ⟨Nat.le_of_ble_eq_true rfl, Nat.le_of_ble_eq_true rfl⟩) (va_recv hK hP (ci := 5) (q0 := 34) rfl cL_at34) ln_L_M hA hK hP hD hS rfl hl.1 rfl rfl (Nat.le_of_ble_eq_true rfl) dL_law_967 (fun H locs hP hD hS => ?_)
                                                                replace hP : va_P D vwCl (cL cI A B q18.2.1 q18.2.2.1 q18.2.2.2.1 q18.2.2.2.2.1 q18.2.2.2.2.2.1 q18.2.2.2.2.2.2.1 a_224.2 a_226.2) H := hP
                                                                replace hD : va_D (fun q : Nat => s.heap.size ≤ q) (cL cI A B q18.2.1 q18.2.2.1 q18.2.2.2.1 q18.2.2.2.2.1 q18.2.2.2.2.2.1 q18.2.2.2.2.2.2.1 a_224.2 a_226.2) := hD
                                                                refine W.lcmp hx hb dL_law_970 ?_
                                                                refine lv_if_eq (tgt := 1163) hx hb dL_law_971 (by decide) (fun c_227 => ?_) (fun c_227 => ?_)
                                                                · replace hf := if_t c_227 hf
                                                                  obtain ⟨v_228, ev_228, hf⟩ := nq_e hf
                                                                  refine lv_iinc (v := v_228) (lv' := [(3, .int v_228), (0, .ref b), (1, .ref (A 0)), (2, .ref (B 0))]) hx hb dL_law_1163 hl (k := 3) rfl (by rw [ev_228]; rfl) (by decide) rfl (fun ls hl => ?_)
                                                                  refine lv_goto (tgt := 18) hx hb dL_law_1166 (by decide) ?_
                                                                  exact ih18 (v_228, q18.2.1, q18.2.2.1, q18.2.2.2.1, q18.2.2.2.2.1, q18.2.2.2.2.2.1, q18.2.2.2.2.2.2.1, a_224.2, a_226.2) hf H locs ls hP hD hS (lv_sub hl [1, 2, 3, 0] rfl)
                                                                · replace hf := if_f c_227 hf
                                                                  refine lv_iconst (v := 0) hx hb dL_law_974 (by decide) ?_
                                                                  exact absurd (Option.some.inj hf) (by decide)
                                                              · replace hf := if_f c_222 hf
                                                                by_cases c_229 : ((xs (q18.1).toNatClampNeg) &&& (63 : Int32)) = 30
                                                                · replace hf := if_t c_229 hf
                                                                  refine lv_tableIn (off := 944) (tgt := 976) hx hb dL_law_32 (by rw [c_229]; decide +kernel) (by rw [c_229]; decide +kernel) (by rw [c_229]; decide +kernel) (by decide) ?_
                                                                  refine lv_aload_n hx hb dL_law_976 rfl (lv_at hl 1 rfl) ?_
                                                                  obtain ⟨a_230, ha_230, hf⟩ := bd_e hf
                                                                  refine Ct.callVg (As := []) (rest := []) (st1 := [.int a_230.1]) ⟨Nat.le_of_ble_eq_true rfl, Nat.le_of_ble_eq_true rfl⟩ (c_X4_whoTold l D cI A q18.2.1 q18.2.2.1 q18.2.2.2.1 q18.2.2.2.2.1 q18.2.2.2.2.2.1 q18.2.2.2.2.2.2.1 q18.2.2.2.2.2.2.2.1 a_230 ha_230) hx hb hml hown hts (cwV 0 hts gL_law_X4_whoTold rfl rfl rfl hd_X4_whoTold ⟨Nat.le_of_ble_eq_true rfl, Nat.le_of_ble_eq_true rfl⟩) (va_recv hK hP (ci := 4) (q0 := 0) rfl cL_at0) ln_L_X hA hK hP hD hS rfl hl.1 rfl rfl (Nat.le_of_ble_eq_true rfl) dL_law_977 (fun H locs hP hD hS => ?_)
                                                                  replace hP : va_P D vwCl (cL cI A B q18.2.1 a_230.2 q18.2.2.2.1 q18.2.2.2.2.1 q18.2.2.2.2.2.1 q18.2.2.2.2.2.2.1 q18.2.2.2.2.2.2.2.1 q18.2.2.2.2.2.2.2.2) H := hP
                                                                  replace hD : va_D (fun q : Nat => s.heap.size ≤ q) (cL cI A B q18.2.1 a_230.2 q18.2.2.2.1 q18.2.2.2.2.1 q18.2.2.2.2.2.1 q18.2.2.2.2.2.2.1 q18.2.2.2.2.2.2.2.1 q18.2.2.2.2.2.2.2.2) := hD
                                                                  refine lv_aload_n hx hb dL_law_980 rfl (lv_at hl 2 rfl) ?_
                                                                  obtain ⟨a_231, ha_231, hf⟩ := bd_e hf
                                                                  refine Ct.callVg (As := []) (rest := [.int a_230.1]) (st1 := [.int a_231.1, .int a_230.1]) ⟨Nat.le_of_ble_eq_true rfl, Nat.le_of_ble_eq_true rfl⟩ (c_X5_whoTold l D cI B q18.2.2.2.2.2.2.2.2 a_231 ha_231) hx hb hml hown hts (cwV 0 hts gL_law_X5_whoTold rfl rfl rfl hd_X5_whoTold ⟨Nat.le_of_ble_eq_true rfl, Nat.le_of_ble_eq_true rfl⟩) (va_recv hK hP (ci := 5) (q0 := 34) rfl cL_at34) ln_L_M hA hK hP hD hS rfl hl.1 rfl rfl (Nat.le_of_ble_eq_true rfl) dL_law_981 (fun H locs hP hD hS => ?_)
                                                                  replace hP : va_P D vwCl (cL cI A B q18.2.1 a_230.2 q18.2.2.2.1 q18.2.2.2.2.1 q18.2.2.2.2.2.1 q18.2.2.2.2.2.2.1 q18.2.2.2.2.2.2.2.1 a_231.2) H := hP
                                                                  replace hD : va_D (fun q : Nat => s.heap.size ≤ q) (cL cI A B q18.2.1 a_230.2 q18.2.2.2.1 q18.2.2.2.2.1 q18.2.2.2.2.2.1 q18.2.2.2.2.2.2.1 q18.2.2.2.2.2.2.2.1 a_231.2) := hD
                                                                  refine lv_icmp_eq (tgt := 1163) hx hb dL_law_984 (by decide) (fun c_232 => ?_) (fun c_232 => ?_)
                                                                  · replace hf := if_t c_232 hf
                                                                    obtain ⟨v_233, ev_233, hf⟩ := nq_e hf
                                                                    refine lv_iinc (v := v_233) (lv' := [(3, .int v_233), (0, .ref b), (1, .ref (A 0)), (2, .ref (B 0))]) hx hb dL_law_1163 hl (k := 3) rfl (by rw [ev_233]; rfl) (by decide) rfl (fun ls hl => ?_)
                                                                    refine lv_goto (tgt := 18) hx hb dL_law_1166 (by decide) ?_
                                                                    exact ih18 (v_233, q18.2.1, a_230.2, q18.2.2.2.1, q18.2.2.2.2.1, q18.2.2.2.2.2.1, q18.2.2.2.2.2.2.1, q18.2.2.2.2.2.2.2.1, a_231.2) hf H locs ls hP hD hS (lv_sub hl [1, 2, 3, 0] rfl)
                                                                  · replace hf := if_f c_232 hf
                                                                    refine lv_iconst (v := 0) hx hb dL_law_987 (by decide) ?_
                                                                    exact absurd (Option.some.inj hf) (by decide)
                                                                · replace hf := if_f c_229 hf
                                                                  by_cases c_234 : ((xs (q18.1).toNatClampNeg) &&& (63 : Int32)) = 31
                                                                  · replace hf := if_t c_234 hf
                                                                    refine lv_tableIn (off := 957) (tgt := 989) hx hb dL_law_32 (by rw [c_234]; decide +kernel) (by rw [c_234]; decide +kernel) (by rw [c_234]; decide +kernel) (by decide) ?_
                                                                    refine lv_aload_n hx hb dL_law_989 rfl (lv_at hl 1 rfl) ?_
                                                                    refine lv_aload_n hx hb dL_law_990 rfl (lv_at hl 0 rfl) ?_
                                                                    refine lv_iload_n hx hb dL_law_991 rfl (lv_at hl 3 rfl) ?_
                                                                    refine lv_iconst (v := 1) hx hb dL_law_992 (by decide) ?_
                                                                    refine lv_iadd hx hb dL_law_993 ?_
                                                                    obtain ⟨c_235, hf⟩ := gi_e hf
                                                                    refine va_sld hx hb hX hbl hbA hS c_235 dL_law_994 ?_
                                                                    refine lv_aload_n hx hb dL_law_995 rfl (lv_at hl 0 rfl) ?_
                                                                    refine lv_iload_n hx hb dL_law_996 rfl (lv_at hl 3 rfl) ?_
                                                                    refine lv_iconst (v := 2) hx hb dL_law_997 (by decide) ?_
                                                                    refine lv_iadd hx hb dL_law_998 ?_
                                                                    obtain ⟨c_236, hf⟩ := gi_e hf
                                                                    refine va_sld hx hb hX hbl hbA hS c_236 dL_law_999 ?_
                                                                    obtain ⟨a_237, ha_237, hf⟩ := bd_e hf
                                                                    refine Ct.callVg (As := [.int (xs ((q18.1 + (1 : Int32))).toNatClampNeg), .int (xs ((q18.1 + (2 : Int32))).toNatClampNeg)]) (rest := []) (st1 := [.int a_237.1]) ⟨Nat.le_of_ble_eq_true rfl, Nat.le_of_ble_eq_true rfl⟩ (c_X4_whatIs l D cI A q18.2.1 q18.2.2.1 q18.2.2.2.1 q18.2.2.2.2.1 q18.2.2.2.2.2.1 q18.2.2.2.2.2.2.1 q18.2.2.2.2.2.2.2.1 (xs ((q18.1 + (1 : Int32))).toNatClampNeg) (xs ((q18.1 + (2 : Int32))).toNatClampNeg) a_237 ha_237) hx hb hml hown hts (cwV 2 hts gL_law_X4_whatIs rfl rfl rfl hd_X4_whatIs ⟨Nat.le_of_ble_eq_true rfl, Nat.le_of_ble_eq_true rfl⟩) (va_recv hK hP (ci := 4) (q0 := 0) rfl cL_at0) ln_L_X hA hK hP hD hS rfl hl.1 rfl rfl (Nat.le_of_ble_eq_true rfl) dL_law_1000 (fun H locs hP hD hS => ?_)
                                                                    replace hP : va_P D vwCl (cL cI A B q18.2.1 a_237.2.1 q18.2.2.2.1 q18.2.2.2.2.1 q18.2.2.2.2.2.1 q18.2.2.2.2.2.2.1 a_237.2.2 q18.2.2.2.2.2.2.2.2) H := hP
                                                                    replace hD : va_D (fun q : Nat => s.heap.size ≤ q) (cL cI A B q18.2.1 a_237.2.1 q18.2.2.2.1 q18.2.2.2.2.1 q18.2.2.2.2.2.1 q18.2.2.2.2.2.2.1 a_237.2.2 q18.2.2.2.2.2.2.2.2) := hD
                                                                    refine lv_aload_n hx hb dL_law_1003 rfl (lv_at hl 2 rfl) ?_
                                                                    refine lv_aload_n hx hb dL_law_1004 rfl (lv_at hl 0 rfl) ?_
                                                                    refine lv_iload_n hx hb dL_law_1005 rfl (lv_at hl 3 rfl) ?_
                                                                    refine lv_iconst (v := 1) hx hb dL_law_1006 (by decide) ?_
                                                                    refine lv_iadd hx hb dL_law_1007 ?_
                                                                    obtain ⟨c_238, hf⟩ := gi_e hf
                                                                    refine va_sld hx hb hX hbl hbA hS c_238 dL_law_1008 ?_
                                                                    refine lv_aload_n hx hb dL_law_1009 rfl (lv_at hl 0 rfl) ?_
                                                                    refine lv_iload_n hx hb dL_law_1010 rfl (lv_at hl 3 rfl) ?_
                                                                    refine lv_iconst (v := 2) hx hb dL_law_1011 (by decide) ?_
                                                                    refine lv_iadd hx hb dL_law_1012 ?_
                                                                    obtain ⟨c_239, hf⟩ := gi_e hf
                                                                    refine va_sld hx hb hX hbl hbA hS c_239 dL_law_1013 ?_
                                                                    obtain ⟨a_240, ha_240, hf⟩ := bd_e hf
                                                                    refine Ct.callVg (As := [.int (xs ((q18.1 + (1 : Int32))).toNatClampNeg), .int (xs ((q18.1 + (2 : Int32))).toNatClampNeg)]) (rest := [.int a_237.1]) (st1 := [.int a_240.1, .int a_237.1]) ⟨Nat.le_of_ble_eq_true rfl, Nat.le_of_ble_eq_true rfl⟩ (c_X5_whatIs l D cI B q18.2.2.2.2.2.2.2.2 (xs ((q18.1 + (1 : Int32))).toNatClampNeg) (xs ((q18.1 + (2 : Int32))).toNatClampNeg) a_240 ha_240) hx hb hml hown hts (cwV 2 hts gL_law_X5_whatIs rfl rfl rfl hd_X5_whatIs ⟨Nat.le_of_ble_eq_true rfl, Nat.le_of_ble_eq_true rfl⟩) (va_recv hK hP (ci := 5) (q0 := 34) rfl cL_at34) ln_L_M hA hK hP hD hS rfl hl.1 rfl rfl (Nat.le_of_ble_eq_true rfl) dL_law_1014 (fun H locs hP hD hS => ?_)
                                                                    replace hP : va_P D vwCl (cL cI A B q18.2.1 a_237.2.1 q18.2.2.2.1 q18.2.2.2.2.1 q18.2.2.2.2.2.1 q18.2.2.2.2.2.2.1 a_237.2.2 a_240.2) H := hP
                                                                    replace hD : va_D (fun q : Nat => s.heap.size ≤ q) (cL cI A B q18.2.1 a_237.2.1 q18.2.2.2.1 q18.2.2.2.2.1 q18.2.2.2.2.2.1 q18.2.2.2.2.2.2.1 a_237.2.2 a_240.2) := hD
                                                                    refine lv_icmp_eq (tgt := 1163) hx hb dL_law_1017 (by decide) (fun c_241 => ?_) (fun c_241 => ?_)
                                                                    · replace hf := if_t c_241 hf
                                                                      obtain ⟨v_242, ev_242, hf⟩ := nq_e hf
                                                                      refine lv_iinc (v := v_242) (lv' := [(3, .int v_242), (0, .ref b), (1, .ref (A 0)), (2, .ref (B 0))]) hx hb dL_law_1163 hl (k := 3) rfl (by rw [ev_242]; rfl) (by decide) rfl (fun ls hl => ?_)
                                                                      refine lv_goto (tgt := 18) hx hb dL_law_1166 (by decide) ?_
                                                                      exact ih18 (v_242, q18.2.1, a_237.2.1, q18.2.2.2.1, q18.2.2.2.2.1, q18.2.2.2.2.2.1, q18.2.2.2.2.2.2.1, a_237.2.2, a_240.2) hf H locs ls hP hD hS (lv_sub hl [1, 2, 3, 0] rfl)
                                                                    · replace hf := if_f c_241 hf
                                                                      refine lv_iconst (v := 0) hx hb dL_law_1020 (by decide) ?_
                                                                      exact absurd (Option.some.inj hf) (by decide)
                                                                  · replace hf := if_f c_234 hf
                                                                    by_cases c_243 : ((xs (q18.1).toNatClampNeg) &&& (63 : Int32)) = 32
                                                                    · replace hf := if_t c_243 hf
                                                                      refine lv_tableIn (off := 990) (tgt := 1022) hx hb dL_law_32 (by rw [c_243]; decide +kernel) (by rw [c_243]; decide +kernel) (by rw [c_243]; decide +kernel) (by decide) ?_
                                                                      refine lv_aload_n hx hb dL_law_1022 rfl (lv_at hl 1 rfl) ?_
                                                                      refine lv_aload_n hx hb dL_law_1023 rfl (lv_at hl 0 rfl) ?_
                                                                      refine lv_iload_n hx hb dL_law_1024 rfl (lv_at hl 3 rfl) ?_
                                                                      refine lv_iconst (v := 1) hx hb dL_law_1025 (by decide) ?_
                                                                      refine lv_iadd hx hb dL_law_1026 ?_
                                                                      obtain ⟨c_244, hf⟩ := gi_e hf
                                                                      refine va_sld hx hb hX hbl hbA hS c_244 dL_law_1027 ?_
                                                                      obtain ⟨a_245, ha_245, hf⟩ := bd_e hf
                                                                      refine Ct.callVg (As := [.int (xs ((q18.1 + (1 : Int32))).toNatClampNeg)]) (rest := []) (st1 := [.int a_245.1]) ⟨Nat.le_of_ble_eq_true rfl, Nat.le_of_ble_eq_true rfl⟩ (c_X4_row l D cI A q18.2.1 q18.2.2.1 q18.2.2.2.1 q18.2.2.2.2.1 q18.2.2.2.2.2.1 q18.2.2.2.2.2.2.1 q18.2.2.2.2.2.2.2.1 (xs ((q18.1 + (1 : Int32))).toNatClampNeg) a_245 ha_245) hx hb hml hown hts (cwV 1 hts gL_law_X4_row rfl rfl rfl hd_X4_row ⟨Nat.le_of_ble_eq_true rfl, Nat.le_of_ble_eq_true rfl⟩) (va_recv hK hP (ci := 4) (q0 := 0) rfl cL_at0) ln_L_X hA hK hP hD hS rfl hl.1 rfl rfl (Nat.le_of_ble_eq_true rfl) dL_law_1028 (fun H locs hP hD hS => ?_)
                                                                      replace hP : va_P D vwCl (cL cI A B q18.2.1 q18.2.2.1 q18.2.2.2.1 q18.2.2.2.2.1 a_245.2.1 q18.2.2.2.2.2.2.1 a_245.2.2 q18.2.2.2.2.2.2.2.2) H := hP
                                                                      replace hD : va_D (fun q : Nat => s.heap.size ≤ q) (cL cI A B q18.2.1 q18.2.2.1 q18.2.2.2.1 q18.2.2.2.2.1 a_245.2.1 q18.2.2.2.2.2.2.1 a_245.2.2 q18.2.2.2.2.2.2.2.2) := hD
                                                                      refine lv_aload_n hx hb dL_law_1031 rfl (lv_at hl 2 rfl) ?_
                                                                      refine lv_aload_n hx hb dL_law_1032 rfl (lv_at hl 0 rfl) ?_
                                                                      refine lv_iload_n hx hb dL_law_1033 rfl (lv_at hl 3 rfl) ?_
                                                                      refine lv_iconst (v := 1) hx hb dL_law_1034 (by decide) ?_
                                                                      refine lv_iadd hx hb dL_law_1035 ?_
                                                                      obtain ⟨c_246, hf⟩ := gi_e hf
                                                                      refine va_sld hx hb hX hbl hbA hS c_246 dL_law_1036 ?_
                                                                      obtain ⟨a_247, ha_247, hf⟩ := bd_e hf
                                                                      refine Ct.callVg (As := [.int (xs ((q18.1 + (1 : Int32))).toNatClampNeg)]) (rest := [.int a_245.1]) (st1 := [.int a_247.1, .int a_245.1]) ⟨Nat.le_of_ble_eq_true rfl, Nat.le_of_ble_eq_true rfl⟩ (c_X5_row l D cI B q18.2.2.2.2.2.2.2.2 (xs ((q18.1 + (1 : Int32))).toNatClampNeg) a_247 ha_247) hx hb hml hown hts (cwV 1 hts gL_law_X5_row rfl rfl rfl hd_X5_row ⟨Nat.le_of_ble_eq_true rfl, Nat.le_of_ble_eq_true rfl⟩) (va_recv hK hP (ci := 5) (q0 := 34) rfl cL_at34) ln_L_M hA hK hP hD hS rfl hl.1 rfl rfl (Nat.le_of_ble_eq_true rfl) dL_law_1037 (fun H locs hP hD hS => ?_)
                                                                      replace hP : va_P D vwCl (cL cI A B q18.2.1 q18.2.2.1 q18.2.2.2.1 q18.2.2.2.2.1 a_245.2.1 q18.2.2.2.2.2.2.1 a_245.2.2 a_247.2) H := hP
                                                                      replace hD : va_D (fun q : Nat => s.heap.size ≤ q) (cL cI A B q18.2.1 q18.2.2.1 q18.2.2.2.1 q18.2.2.2.2.1 a_245.2.1 q18.2.2.2.2.2.2.1 a_245.2.2 a_247.2) := hD
                                                                      refine lv_icmp_eq (tgt := 1163) hx hb dL_law_1040 (by decide) (fun c_248 => ?_) (fun c_248 => ?_)
                                                                      · replace hf := if_t c_248 hf
                                                                        obtain ⟨v_249, ev_249, hf⟩ := nq_e hf
                                                                        refine lv_iinc (v := v_249) (lv' := [(3, .int v_249), (0, .ref b), (1, .ref (A 0)), (2, .ref (B 0))]) hx hb dL_law_1163 hl (k := 3) rfl (by rw [ev_249]; rfl) (by decide) rfl (fun ls hl => ?_)
                                                                        refine lv_goto (tgt := 18) hx hb dL_law_1166 (by decide) ?_
                                                                        exact ih18 (v_249, q18.2.1, q18.2.2.1, q18.2.2.2.1, q18.2.2.2.2.1, a_245.2.1, q18.2.2.2.2.2.2.1, a_245.2.2, a_247.2) hf H locs ls hP hD hS (lv_sub hl [1, 2, 3, 0] rfl)
                                                                      · replace hf := if_f c_248 hf
                                                                        refine lv_iconst (v := 0) hx hb dL_law_1043 (by decide) ?_
                                                                        exact absurd (Option.some.inj hf) (by decide)
                                                                    · replace hf := if_f c_243 hf
                                                                      by_cases c_250 : ((xs (q18.1).toNatClampNeg) &&& (63 : Int32)) = 33
                                                                      · replace hf := if_t c_250 hf
                                                                        refine lv_tableIn (off := 1013) (tgt := 1045) hx hb dL_law_32 (by rw [c_250]; decide +kernel) (by rw [c_250]; decide +kernel) (by rw [c_250]; decide +kernel) (by decide) ?_
                                                                        refine lv_aload_n hx hb dL_law_1045 rfl (lv_at hl 1 rfl) ?_
                                                                        obtain ⟨a_251, ha_251, hf⟩ := bd_e hf
                                                                        refine Ct.callVg (As := []) (rest := []) (st1 := [.int a_251.1]) ⟨Nat.le_of_ble_eq_true rfl, Nat.le_of_ble_eq_true rfl⟩ (c_X4_judge l D cI A q18.2.1 q18.2.2.1 q18.2.2.2.1 q18.2.2.2.2.1 q18.2.2.2.2.2.1 q18.2.2.2.2.2.2.1 q18.2.2.2.2.2.2.2.1 a_251 ha_251) hx hb hml hown hts (cwV 0 hts gL_law_X4_judge rfl rfl rfl hd_X4_judge ⟨Nat.le_of_ble_eq_true rfl, Nat.le_of_ble_eq_true rfl⟩) (va_recv hK hP (ci := 4) (q0 := 0) rfl cL_at0) ln_L_X hA hK hP hD hS rfl hl.1 rfl rfl (Nat.le_of_ble_eq_true rfl) dL_law_1046 (fun H locs hP hD hS => ?_)
                                                                        replace hP : va_P D vwCl (cL cI A B q18.2.1 q18.2.2.1 q18.2.2.2.1 q18.2.2.2.2.1 a_251.2 q18.2.2.2.2.2.2.1 q18.2.2.2.2.2.2.2.1 q18.2.2.2.2.2.2.2.2) H := hP
                                                                        replace hD : va_D (fun q : Nat => s.heap.size ≤ q) (cL cI A B q18.2.1 q18.2.2.1 q18.2.2.2.1 q18.2.2.2.2.1 a_251.2 q18.2.2.2.2.2.2.1 q18.2.2.2.2.2.2.2.1 q18.2.2.2.2.2.2.2.2) := hD
                                                                        refine lv_aload_n hx hb dL_law_1049 rfl (lv_at hl 2 rfl) ?_
                                                                        obtain ⟨a_252, ha_252, hf⟩ := bd_e hf
                                                                        refine Ct.callVg (As := []) (rest := [.int a_251.1]) (st1 := [.int a_252.1, .int a_251.1]) ⟨Nat.le_of_ble_eq_true rfl, Nat.le_of_ble_eq_true rfl⟩ (c_X5_judge l D cI B q18.2.2.2.2.2.2.2.2 a_252 ha_252) hx hb hml hown hts (cwV 0 hts gL_law_X5_judge rfl rfl rfl hd_X5_judge ⟨Nat.le_of_ble_eq_true rfl, Nat.le_of_ble_eq_true rfl⟩) (va_recv hK hP (ci := 5) (q0 := 34) rfl cL_at34) ln_L_M hA hK hP hD hS rfl hl.1 rfl rfl (Nat.le_of_ble_eq_true rfl) dL_law_1050 (fun H locs hP hD hS => ?_)
                                                                        replace hP : va_P D vwCl (cL cI A B q18.2.1 q18.2.2.1 q18.2.2.2.1 q18.2.2.2.2.1 a_251.2 q18.2.2.2.2.2.2.1 q18.2.2.2.2.2.2.2.1 a_252.2) H := hP
                                                                        replace hD : va_D (fun q : Nat => s.heap.size ≤ q) (cL cI A B q18.2.1 q18.2.2.1 q18.2.2.2.1 q18.2.2.2.2.1 a_251.2 q18.2.2.2.2.2.2.1 q18.2.2.2.2.2.2.2.1 a_252.2) := hD
                                                                        refine lv_icmp_eq (tgt := 1163) hx hb dL_law_1053 (by decide) (fun c_253 => ?_) (fun c_253 => ?_)
                                                                        · replace hf := if_t c_253 hf
                                                                          obtain ⟨v_254, ev_254, hf⟩ := nq_e hf
                                                                          refine lv_iinc (v := v_254) (lv' := [(3, .int v_254), (0, .ref b), (1, .ref (A 0)), (2, .ref (B 0))]) hx hb dL_law_1163 hl (k := 3) rfl (by rw [ev_254]; rfl) (by decide) rfl (fun ls hl => ?_)
                                                                          refine lv_goto (tgt := 18) hx hb dL_law_1166 (by decide) ?_
                                                                          exact ih18 (v_254, q18.2.1, q18.2.2.1, q18.2.2.2.1, q18.2.2.2.2.1, a_251.2, q18.2.2.2.2.2.2.1, q18.2.2.2.2.2.2.2.1, a_252.2) hf H locs ls hP hD hS (lv_sub hl [1, 2, 3, 0] rfl)
                                                                        · replace hf := if_f c_253 hf
                                                                          refine lv_iconst (v := 0) hx hb dL_law_1056 (by decide) ?_
                                                                          exact absurd (Option.some.inj hf) (by decide)
                                                                      · replace hf := if_f c_250 hf
                                                                        by_cases c_255 : ((xs (q18.1).toNatClampNeg) &&& (63 : Int32)) = 34
                                                                        · replace hf := if_t c_255 hf
                                                                          refine lv_tableIn (off := 1026) (tgt := 1058) hx hb dL_law_32 (by rw [c_255]; decide +kernel) (by rw [c_255]; decide +kernel) (by rw [c_255]; decide +kernel) (by decide) ?_
                                                                          refine lv_aload_n hx hb dL_law_1058 rfl (lv_at hl 1 rfl) ?_
                                                                          obtain ⟨a_256, ha_256, hf⟩ := bd_e hf
                                                                          refine Ct.callVg (As := []) (rest := []) (st1 := [.int a_256.1]) ⟨Nat.le_of_ble_eq_true rfl, Nat.le_of_ble_eq_true rfl⟩ (c_X4_clear l D cI A q18.2.1 q18.2.2.1 q18.2.2.2.1 q18.2.2.2.2.1 q18.2.2.2.2.2.1 q18.2.2.2.2.2.2.1 q18.2.2.2.2.2.2.2.1 a_256 ha_256) hx hb hml hown hts (cwV 0 hts gL_law_X4_clear rfl rfl rfl hd_X4_clear ⟨Nat.le_of_ble_eq_true rfl, Nat.le_of_ble_eq_true rfl⟩) (va_recv hK hP (ci := 4) (q0 := 0) rfl cL_at0) ln_L_X hA hK hP hD hS rfl hl.1 rfl rfl (Nat.le_of_ble_eq_true rfl) dL_law_1059 (fun H locs hP hD hS => ?_)
                                                                          replace hP : va_P D vwCl (cL cI A B q18.2.1 q18.2.2.1 q18.2.2.2.1 q18.2.2.2.2.1 a_256.2 q18.2.2.2.2.2.2.1 q18.2.2.2.2.2.2.2.1 q18.2.2.2.2.2.2.2.2) H := hP
                                                                          replace hD : va_D (fun q : Nat => s.heap.size ≤ q) (cL cI A B q18.2.1 q18.2.2.1 q18.2.2.2.1 q18.2.2.2.2.1 a_256.2 q18.2.2.2.2.2.2.1 q18.2.2.2.2.2.2.2.1 q18.2.2.2.2.2.2.2.2) := hD
                                                                          refine lv_aload_n hx hb dL_law_1062 rfl (lv_at hl 2 rfl) ?_
                                                                          obtain ⟨a_257, ha_257, hf⟩ := bd_e hf
                                                                          refine Ct.callVg (As := []) (rest := [.int a_256.1]) (st1 := [.int a_257.1, .int a_256.1]) ⟨Nat.le_of_ble_eq_true rfl, Nat.le_of_ble_eq_true rfl⟩ (c_X5_clear l D cI B q18.2.2.2.2.2.2.2.2 a_257 ha_257) hx hb hml hown hts (cwV 0 hts gL_law_X5_clear rfl rfl rfl hd_X5_clear ⟨Nat.le_of_ble_eq_true rfl, Nat.le_of_ble_eq_true rfl⟩) (va_recv hK hP (ci := 5) (q0 := 34) rfl cL_at34) ln_L_M hA hK hP hD hS rfl hl.1 rfl rfl (Nat.le_of_ble_eq_true rfl) dL_law_1063 (fun H locs hP hD hS => ?_)
                                                                          replace hP : va_P D vwCl (cL cI A B q18.2.1 q18.2.2.1 q18.2.2.2.1 q18.2.2.2.2.1 a_256.2 q18.2.2.2.2.2.2.1 q18.2.2.2.2.2.2.2.1 a_257.2) H := hP
                                                                          replace hD : va_D (fun q : Nat => s.heap.size ≤ q) (cL cI A B q18.2.1 q18.2.2.1 q18.2.2.2.1 q18.2.2.2.2.1 a_256.2 q18.2.2.2.2.2.2.1 q18.2.2.2.2.2.2.2.1 a_257.2) := hD
                                                                          refine lv_icmp_eq (tgt := 1163) hx hb dL_law_1066 (by decide) (fun c_258 => ?_) (fun c_258 => ?_)
                                                                          · replace hf := if_t c_258 hf
                                                                            obtain ⟨v_259, ev_259, hf⟩ := nq_e hf
                                                                            refine lv_iinc (v := v_259) (lv' := [(3, .int v_259), (0, .ref b), (1, .ref (A 0)), (2, .ref (B 0))]) hx hb dL_law_1163 hl (k := 3) rfl (by rw [ev_259]; rfl) (by decide) rfl (fun ls hl => ?_)
                                                                            refine lv_goto (tgt := 18) hx hb dL_law_1166 (by decide) ?_
                                                                            exact ih18 (v_259, q18.2.1, q18.2.2.1, q18.2.2.2.1, q18.2.2.2.2.1, a_256.2, q18.2.2.2.2.2.2.1, q18.2.2.2.2.2.2.2.1, a_257.2) hf H locs ls hP hD hS (lv_sub hl [1, 2, 3, 0] rfl)
                                                                          · replace hf := if_f c_258 hf
                                                                            refine lv_iconst (v := 0) hx hb dL_law_1069 (by decide) ?_
                                                                            exact absurd (Option.some.inj hf) (by decide)
                                                                        · replace hf := if_f c_255 hf
                                                                          by_cases c_260 : ((xs (q18.1).toNatClampNeg) &&& (63 : Int32)) = 35
                                                                          · replace hf := if_t c_260 hf
                                                                            refine lv_tableIn (off := 1039) (tgt := 1071) hx hb dL_law_32 (by rw [c_260]; decide +kernel) (by rw [c_260]; decide +kernel) (by rw [c_260]; decide +kernel) (by decide) ?_
                                                                            refine lv_aload_n hx hb dL_law_1071 rfl (lv_at hl 1 rfl) ?_
                                                                            refine lv_aload_n hx hb dL_law_1072 rfl (lv_at hl 0 rfl) ?_
                                                                            refine lv_iload_n hx hb dL_law_1073 rfl (lv_at hl 3 rfl) ?_
                                                                            refine lv_iconst (v := 1) hx hb dL_law_1074 (by decide) ?_
                                                                            refine lv_iadd hx hb dL_law_1075 ?_
                                                                            obtain ⟨c_261, hf⟩ := gi_e hf
                                                                            refine va_sld hx hb hX hbl hbA hS c_261 dL_law_1076 ?_
                                                                            refine lv_aload_n hx hb dL_law_1077 rfl (lv_at hl 0 rfl) ?_
                                                                            refine lv_iload_n hx hb dL_law_1078 rfl (lv_at hl 3 rfl) ?_
                                                                            refine lv_iconst (v := 2) hx hb dL_law_1079 (by decide) ?_
                                                                            refine lv_iadd hx hb dL_law_1080 ?_
                                                                            obtain ⟨c_262, hf⟩ := gi_e hf
                                                                            refine va_sld hx hb hX hbl hbA hS c_262 dL_law_1081 ?_
                                                                            refine lv_aload_n hx hb dL_law_1082 rfl (lv_at hl 0 rfl) ?_
                                                                            refine lv_iload_n hx hb dL_law_1083 rfl (lv_at hl 3 rfl) ?_
                                                                            refine lv_iconst (v := 3) hx hb dL_law_1084 (by decide) ?_
                                                                            refine lv_iadd hx hb dL_law_1085 ?_
                                                                            obtain ⟨c_263, hf⟩ := gi_e hf
                                                                            refine va_sld hx hb hX hbl hbA hS c_263 dL_law_1086 ?_
                                                                            obtain ⟨a_264, ha_264, hf⟩ := bd_e hf
                                                                            refine Ct.callVg (As := [.int (xs ((q18.1 + (1 : Int32))).toNatClampNeg), .int (xs ((q18.1 + (2 : Int32))).toNatClampNeg), .int (xs ((q18.1 + (3 : Int32))).toNatClampNeg)]) (rest := []) (st1 := [.int a_264.1]) ⟨Nat.le_of_ble_eq_true rfl, Nat.le_of_ble_eq_true rfl⟩ (c_X4_lots l D cI A q18.2.1 q18.2.2.1 q18.2.2.2.1 q18.2.2.2.2.1 q18.2.2.2.2.2.1 q18.2.2.2.2.2.2.1 q18.2.2.2.2.2.2.2.1 (xs ((q18.1 + (1 : Int32))).toNatClampNeg) (xs ((q18.1 + (2 : Int32))).toNatClampNeg) (xs ((q18.1 + (3 : Int32))).toNatClampNeg) a_264 ha_264) hx hb hml hown hts (cwV 3 hts gL_law_X4_lots rfl rfl rfl hd_X4_lots ⟨Nat.le_of_ble_eq_true rfl, Nat.le_of_ble_eq_true rfl⟩) (va_recv hK hP (ci := 4) (q0 := 0) rfl cL_at0) ln_L_X hA hK hP hD hS rfl hl.1 rfl rfl (Nat.le_of_ble_eq_true rfl) dL_law_1087 (fun H locs hP hD hS => ?_)
                                                                            replace hP : va_P D vwCl (cL cI A B q18.2.1 a_264.2.1 q18.2.2.2.1 q18.2.2.2.2.1 q18.2.2.2.2.2.1 a_264.2.2.1 a_264.2.2.2 q18.2.2.2.2.2.2.2.2) H := hP
                                                                            replace hD : va_D (fun q : Nat => s.heap.size ≤ q) (cL cI A B q18.2.1 a_264.2.1 q18.2.2.2.1 q18.2.2.2.2.1 q18.2.2.2.2.2.1 a_264.2.2.1 a_264.2.2.2 q18.2.2.2.2.2.2.2.2) := hD
                                                                            refine lv_aload_n hx hb dL_law_1090 rfl (lv_at hl 2 rfl) ?_
                                                                            refine lv_aload_n hx hb dL_law_1091 rfl (lv_at hl 0 rfl) ?_
                                                                            refine lv_iload_n hx hb dL_law_1092 rfl (lv_at hl 3 rfl) ?_
                                                                            refine lv_iconst (v := 1) hx hb dL_law_1093 (by decide) ?_
                                                                            refine lv_iadd hx hb dL_law_1094 ?_
                                                                            obtain ⟨c_265, hf⟩ := gi_e hf
                                                                            refine va_sld hx hb hX hbl hbA hS c_265 dL_law_1095 ?_
                                                                            refine lv_aload_n hx hb dL_law_1096 rfl (lv_at hl 0 rfl) ?_
                                                                            refine lv_iload_n hx hb dL_law_1097 rfl (lv_at hl 3 rfl) ?_
                                                                            refine lv_iconst (v := 2) hx hb dL_law_1098 (by decide) ?_
                                                                            refine lv_iadd hx hb dL_law_1099 ?_
                                                                            obtain ⟨c_266, hf⟩ := gi_e hf
                                                                            refine va_sld hx hb hX hbl hbA hS c_266 dL_law_1100 ?_
                                                                            refine lv_aload_n hx hb dL_law_1101 rfl (lv_at hl 0 rfl) ?_
                                                                            refine lv_iload_n hx hb dL_law_1102 rfl (lv_at hl 3 rfl) ?_
                                                                            refine lv_iconst (v := 3) hx hb dL_law_1103 (by decide) ?_
                                                                            refine lv_iadd hx hb dL_law_1104 ?_
                                                                            obtain ⟨c_267, hf⟩ := gi_e hf
                                                                            refine va_sld hx hb hX hbl hbA hS c_267 dL_law_1105 ?_
                                                                            obtain ⟨a_268, ha_268, hf⟩ := bd_e hf
                                                                            refine Ct.callVg (As := [.int (xs ((q18.1 + (1 : Int32))).toNatClampNeg), .int (xs ((q18.1 + (2 : Int32))).toNatClampNeg), .int (xs ((q18.1 + (3 : Int32))).toNatClampNeg)]) (rest := [.int a_264.1]) (st1 := [.int a_268.1, .int a_264.1]) ⟨Nat.le_of_ble_eq_true rfl, Nat.le_of_ble_eq_true rfl⟩ (c_X5_lots l D cI B q18.2.2.2.2.2.2.2.2 (xs ((q18.1 + (1 : Int32))).toNatClampNeg) (xs ((q18.1 + (2 : Int32))).toNatClampNeg) (xs ((q18.1 + (3 : Int32))).toNatClampNeg) a_268 ha_268) hx hb hml hown hts (cwV 3 hts gL_law_X5_lots rfl rfl rfl hd_X5_lots ⟨Nat.le_of_ble_eq_true rfl, Nat.le_of_ble_eq_true rfl⟩) (va_recv hK hP (ci := 5) (q0 := 34) rfl cL_at34) ln_L_M hA hK hP hD hS rfl hl.1 rfl rfl (Nat.le_of_ble_eq_true rfl) dL_law_1106 (fun H locs hP hD hS => ?_)
                                                                            replace hP : va_P D vwCl (cL cI A B q18.2.1 a_264.2.1 q18.2.2.2.1 q18.2.2.2.2.1 q18.2.2.2.2.2.1 a_264.2.2.1 a_264.2.2.2 a_268.2) H := hP
                                                                            replace hD : va_D (fun q : Nat => s.heap.size ≤ q) (cL cI A B q18.2.1 a_264.2.1 q18.2.2.2.1 q18.2.2.2.2.1 q18.2.2.2.2.2.1 a_264.2.2.1 a_264.2.2.2 a_268.2) := hD
                                                                            refine lv_icmp_eq (tgt := 1163) hx hb dL_law_1109 (by decide) (fun c_269 => ?_) (fun c_269 => ?_)
                                                                            · replace hf := if_t c_269 hf
                                                                              obtain ⟨v_270, ev_270, hf⟩ := nq_e hf
                                                                              refine lv_iinc (v := v_270) (lv' := [(3, .int v_270), (0, .ref b), (1, .ref (A 0)), (2, .ref (B 0))]) hx hb dL_law_1163 hl (k := 3) rfl (by rw [ev_270]; rfl) (by decide) rfl (fun ls hl => ?_)
                                                                              refine lv_goto (tgt := 18) hx hb dL_law_1166 (by decide) ?_
                                                                              exact ih18 (v_270, q18.2.1, a_264.2.1, q18.2.2.2.1, q18.2.2.2.2.1, q18.2.2.2.2.2.1, a_264.2.2.1, a_264.2.2.2, a_268.2) hf H locs ls hP hD hS (lv_sub hl [1, 2, 3, 0] rfl)
                                                                            · replace hf := if_f c_269 hf
                                                                              refine lv_iconst (v := 0) hx hb dL_law_1112 (by decide) ?_
                                                                              exact absurd (Option.some.inj hf) (by decide)
                                                                          · replace hf := if_f c_260 hf
                                                                            by_cases c_271 : ((xs (q18.1).toNatClampNeg) &&& (63 : Int32)) = 36
                                                                            · replace hf := if_t c_271 hf
                                                                              refine lv_tableIn (off := 1082) (tgt := 1114) hx hb dL_law_32 (by rw [c_271]; decide +kernel) (by rw [c_271]; decide +kernel) (by rw [c_271]; decide +kernel) (by decide) ?_
                                                                              refine lv_aload_n hx hb dL_law_1114 rfl (lv_at hl 1 rfl) ?_
                                                                              obtain ⟨a_272, ha_272, hf⟩ := bd_e hf
                                                                              refine Ct.callVg (As := []) (rest := []) (st1 := [.int a_272.1]) ⟨Nat.le_of_ble_eq_true rfl, Nat.le_of_ble_eq_true rfl⟩ (c_X4_image l D cI A q18.2.1 q18.2.2.1 q18.2.2.2.1 q18.2.2.2.2.1 q18.2.2.2.2.2.1 q18.2.2.2.2.2.2.1 q18.2.2.2.2.2.2.2.1 a_272 ha_272) hx hb hml hown hts (cwV 0 hts gL_law_X4_image rfl rfl rfl hd_X4_image ⟨Nat.le_of_ble_eq_true rfl, Nat.le_of_ble_eq_true rfl⟩) (va_recv hK hP (ci := 4) (q0 := 0) rfl cL_at0) ln_L_X hA hK hP hD hS rfl hl.1 rfl rfl (Nat.le_of_ble_eq_true rfl) dL_law_1115 (fun H locs hP hD hS => ?_)
                                                                              replace hP : va_P D vwCl (cL cI A B q18.2.1 q18.2.2.1 a_272.2.1 q18.2.2.2.2.1 q18.2.2.2.2.2.1 q18.2.2.2.2.2.2.1 a_272.2.2 q18.2.2.2.2.2.2.2.2) H := hP
                                                                              replace hD : va_D (fun q : Nat => s.heap.size ≤ q) (cL cI A B q18.2.1 q18.2.2.1 a_272.2.1 q18.2.2.2.2.1 q18.2.2.2.2.2.1 q18.2.2.2.2.2.2.1 a_272.2.2 q18.2.2.2.2.2.2.2.2) := hD
                                                                              refine lv_aload_n hx hb dL_law_1118 rfl (lv_at hl 2 rfl) ?_
                                                                              obtain ⟨a_273, ha_273, hf⟩ := bd_e hf
                                                                              refine Ct.callVg (As := []) (rest := [.int a_272.1]) (st1 := [.int a_273.1, .int a_272.1]) ⟨Nat.le_of_ble_eq_true rfl, Nat.le_of_ble_eq_true rfl⟩ (c_X5_image l D cI B q18.2.2.2.2.2.2.2.2 a_273 ha_273) hx hb hml hown hts (cwV 0 hts gL_law_X5_image rfl rfl rfl hd_X5_image ⟨Nat.le_of_ble_eq_true rfl, Nat.le_of_ble_eq_true rfl⟩) (va_recv hK hP (ci := 5) (q0 := 34) rfl cL_at34) ln_L_M hA hK hP hD hS rfl hl.1 rfl rfl (Nat.le_of_ble_eq_true rfl) dL_law_1119 (fun H locs hP hD hS => ?_)
                                                                              replace hP : va_P D vwCl (cL cI A B q18.2.1 q18.2.2.1 a_272.2.1 q18.2.2.2.2.1 q18.2.2.2.2.2.1 q18.2.2.2.2.2.2.1 a_272.2.2 a_273.2) H := hP
                                                                              replace hD : va_D (fun q : Nat => s.heap.size ≤ q) (cL cI A B q18.2.1 q18.2.2.1 a_272.2.1 q18.2.2.2.2.1 q18.2.2.2.2.2.1 q18.2.2.2.2.2.2.1 a_272.2.2 a_273.2) := hD
                                                                              refine lv_icmp_eq (tgt := 1163) hx hb dL_law_1122 (by decide) (fun c_274 => ?_) (fun c_274 => ?_)
                                                                              · replace hf := if_t c_274 hf
                                                                                obtain ⟨v_275, ev_275, hf⟩ := nq_e hf
                                                                                refine lv_iinc (v := v_275) (lv' := [(3, .int v_275), (0, .ref b), (1, .ref (A 0)), (2, .ref (B 0))]) hx hb dL_law_1163 hl (k := 3) rfl (by rw [ev_275]; rfl) (by decide) rfl (fun ls hl => ?_)
                                                                                refine lv_goto (tgt := 18) hx hb dL_law_1166 (by decide) ?_
                                                                                exact ih18 (v_275, q18.2.1, q18.2.2.1, a_272.2.1, q18.2.2.2.2.1, q18.2.2.2.2.2.1, q18.2.2.2.2.2.2.1, a_272.2.2, a_273.2) hf H locs ls hP hD hS (lv_sub hl [1, 2, 3, 0] rfl)
                                                                              · replace hf := if_f c_274 hf
                                                                                refine lv_iconst (v := 0) hx hb dL_law_1125 (by decide) ?_
                                                                                exact absurd (Option.some.inj hf) (by decide)
                                                                            · replace hf := if_f c_271 hf
                                                                              by_cases c_276 : ((xs (q18.1).toNatClampNeg) &&& (63 : Int32)) = 37
                                                                              · replace hf := if_t c_276 hf
                                                                                refine lv_tableIn (off := 1095) (tgt := 1127) hx hb dL_law_32 (by rw [c_276]; decide +kernel) (by rw [c_276]; decide +kernel) (by rw [c_276]; decide +kernel) (by decide) ?_
                                                                                refine lv_aload_n hx hb dL_law_1127 rfl (lv_at hl 1 rfl) ?_
                                                                                obtain ⟨a_277, ha_277, hf⟩ := bd_e hf
                                                                                refine Ct.callVg (As := []) (rest := []) (st1 := [.int a_277.1]) ⟨Nat.le_of_ble_eq_true rfl, Nat.le_of_ble_eq_true rfl⟩ (c_X4_on l D cI A q18.2.1 q18.2.2.1 q18.2.2.2.1 q18.2.2.2.2.1 q18.2.2.2.2.2.1 q18.2.2.2.2.2.2.1 q18.2.2.2.2.2.2.2.1 a_277 ha_277) hx hb hml hown hts (cwV 0 hts gL_law_X4_on rfl rfl rfl hd_X4_on ⟨Nat.le_of_ble_eq_true rfl, Nat.le_of_ble_eq_true rfl⟩) (va_recv hK hP (ci := 4) (q0 := 0) rfl cL_at0) ln_L_X hA hK hP hD hS rfl hl.1 rfl rfl (Nat.le_of_ble_eq_true rfl) dL_law_1128 (fun H locs hP hD hS => ?_)
                                                                                replace hP : va_P D vwCl (cL cI A B a_277.2.1 q18.2.2.1 q18.2.2.2.1 q18.2.2.2.2.1 q18.2.2.2.2.2.1 q18.2.2.2.2.2.2.1 a_277.2.2 q18.2.2.2.2.2.2.2.2) H := hP
                                                                                replace hD : va_D (fun q : Nat => s.heap.size ≤ q) (cL cI A B a_277.2.1 q18.2.2.1 q18.2.2.2.1 q18.2.2.2.2.1 q18.2.2.2.2.2.1 q18.2.2.2.2.2.2.1 a_277.2.2 q18.2.2.2.2.2.2.2.2) := hD
                                                                                refine lv_aload_n hx hb dL_law_1131 rfl (lv_at hl 2 rfl) ?_
                                                                                obtain ⟨a_278, ha_278, hf⟩ := bd_e hf
                                                                                refine Ct.callVg (As := []) (rest := [.int a_277.1]) (st1 := [.int a_278.1, .int a_277.1]) ⟨Nat.le_of_ble_eq_true rfl, Nat.le_of_ble_eq_true rfl⟩ (c_X5_on l D cI B q18.2.2.2.2.2.2.2.2 a_278 ha_278) hx hb hml hown hts (cwV 0 hts gL_law_X5_on rfl rfl rfl hd_X5_on ⟨Nat.le_of_ble_eq_true rfl, Nat.le_of_ble_eq_true rfl⟩) (va_recv hK hP (ci := 5) (q0 := 34) rfl cL_at34) ln_L_M hA hK hP hD hS rfl hl.1 rfl rfl (Nat.le_of_ble_eq_true rfl) dL_law_1132 (fun H locs hP hD hS => ?_)
                                                                                replace hP : va_P D vwCl (cL cI A B a_277.2.1 q18.2.2.1 q18.2.2.2.1 q18.2.2.2.2.1 q18.2.2.2.2.2.1 q18.2.2.2.2.2.2.1 a_277.2.2 a_278.2) H := hP
                                                                                replace hD : va_D (fun q : Nat => s.heap.size ≤ q) (cL cI A B a_277.2.1 q18.2.2.1 q18.2.2.2.1 q18.2.2.2.2.1 q18.2.2.2.2.2.1 q18.2.2.2.2.2.2.1 a_277.2.2 a_278.2) := hD
                                                                                refine lv_icmp_eq (tgt := 1163) hx hb dL_law_1135 (by decide) (fun c_279 => ?_) (fun c_279 => ?_)
                                                                                · replace hf := if_t c_279 hf
                                                                                  obtain ⟨v_280, ev_280, hf⟩ := nq_e hf
                                                                                  refine lv_iinc (v := v_280) (lv' := [(3, .int v_280), (0, .ref b), (1, .ref (A 0)), (2, .ref (B 0))]) hx hb dL_law_1163 hl (k := 3) rfl (by rw [ev_280]; rfl) (by decide) rfl (fun ls hl => ?_)
                                                                                  refine lv_goto (tgt := 18) hx hb dL_law_1166 (by decide) ?_
                                                                                  exact ih18 (v_280, a_277.2.1, q18.2.2.1, q18.2.2.2.1, q18.2.2.2.2.1, q18.2.2.2.2.2.1, q18.2.2.2.2.2.2.1, a_277.2.2, a_278.2) hf H locs ls hP hD hS (lv_sub hl [1, 2, 3, 0] rfl)
                                                                                · replace hf := if_f c_279 hf
                                                                                  refine lv_iconst (v := 0) hx hb dL_law_1138 (by decide) ?_
                                                                                  exact absurd (Option.some.inj hf) (by decide)
                                                                              · replace hf := if_f c_276 hf
                                                                                by_cases c_281 : ((xs (q18.1).toNatClampNeg) &&& (63 : Int32)) = 38
                                                                                · replace hf := if_t c_281 hf
                                                                                  refine lv_tableIn (off := 1108) (tgt := 1140) hx hb dL_law_32 (by rw [c_281]; decide +kernel) (by rw [c_281]; decide +kernel) (by rw [c_281]; decide +kernel) (by decide) ?_
                                                                                  refine lv_aload_n hx hb dL_law_1140 rfl (lv_at hl 1 rfl) ?_
                                                                                  refine lv_aload_n hx hb dL_law_1141 rfl (lv_at hl 0 rfl) ?_
                                                                                  refine lv_iload_n hx hb dL_law_1142 rfl (lv_at hl 3 rfl) ?_
                                                                                  refine lv_iconst (v := 1) hx hb dL_law_1143 (by decide) ?_
                                                                                  refine lv_iadd hx hb dL_law_1144 ?_
                                                                                  obtain ⟨c_282, hf⟩ := gi_e hf
                                                                                  refine va_sld hx hb hX hbl hbA hS c_282 dL_law_1145 ?_
                                                                                  obtain ⟨a_283, ha_283, hf⟩ := bd_e hf
                                                                                  refine Ct.callVg (As := [.int (xs ((q18.1 + (1 : Int32))).toNatClampNeg)]) (rest := []) (st1 := [.int a_283]) ⟨Nat.le_of_ble_eq_true rfl, Nat.le_of_ble_eq_true rfl⟩ (c_X4_count l D cI A q18.2.1 q18.2.2.1 q18.2.2.2.1 q18.2.2.2.2.1 q18.2.2.2.2.2.1 q18.2.2.2.2.2.2.1 q18.2.2.2.2.2.2.2.1 (xs ((q18.1 + (1 : Int32))).toNatClampNeg) a_283 ha_283) hx hb hml hown hts (cwV 1 hts gL_law_X4_count rfl rfl rfl hd_X4_count ⟨Nat.le_of_ble_eq_true rfl, Nat.le_of_ble_eq_true rfl⟩) (va_recv hK hP (ci := 4) (q0 := 0) rfl cL_at0) ln_L_X hA hK hP hD hS rfl hl.1 rfl rfl (Nat.le_of_ble_eq_true rfl) dL_law_1146 (fun H locs hP hD hS => ?_)
                                                                                  refine lv_aload_n hx hb dL_law_1149 rfl (lv_at hl 2 rfl) ?_
                                                                                  refine lv_aload_n hx hb dL_law_1150 rfl (lv_at hl 0 rfl) ?_
                                                                                  refine lv_iload_n hx hb dL_law_1151 rfl (lv_at hl 3 rfl) ?_
                                                                                  refine lv_iconst (v := 1) hx hb dL_law_1152 (by decide) ?_
                                                                                  refine lv_iadd hx hb dL_law_1153 ?_
                                                                                  obtain ⟨c_284, hf⟩ := gi_e hf
                                                                                  refine va_sld hx hb hX hbl hbA hS c_284 dL_law_1154 ?_
                                                                                  obtain ⟨a_285, ha_285, hf⟩ := bd_e hf
                                                                                  refine Ct.callVg (As := [.int (xs ((q18.1 + (1 : Int32))).toNatClampNeg)]) (rest := [.int a_283]) (st1 := [.int a_285, .int a_283]) ⟨Nat.le_of_ble_eq_true rfl, Nat.le_of_ble_eq_true rfl⟩ (c_X5_count l D cI B q18.2.2.2.2.2.2.2.2 (xs ((q18.1 + (1 : Int32))).toNatClampNeg) a_285 ha_285) hx hb hml hown hts (cwV 1 hts gL_law_X5_count rfl rfl rfl hd_X5_count ⟨Nat.le_of_ble_eq_true rfl, Nat.le_of_ble_eq_true rfl⟩) (va_recv hK hP (ci := 5) (q0 := 34) rfl cL_at34) ln_L_M hA hK hP hD hS rfl hl.1 rfl rfl (Nat.le_of_ble_eq_true rfl) dL_law_1155 (fun H locs hP hD hS => ?_)
                                                                                  refine lv_icmp_eq (tgt := 1163) hx hb dL_law_1158 (by decide) (fun c_286 => ?_) (fun c_286 => ?_)
                                                                                  · replace hf := if_t c_286 hf
                                                                                    obtain ⟨v_287, ev_287, hf⟩ := nq_e hf
                                                                                    refine lv_iinc (v := v_287) (lv' := [(3, .int v_287), (0, .ref b), (1, .ref (A 0)), (2, .ref (B 0))]) hx hb dL_law_1163 hl (k := 3) rfl (by rw [ev_287]; rfl) (by decide) rfl (fun ls hl => ?_)
                                                                                    refine lv_goto (tgt := 18) hx hb dL_law_1166 (by decide) ?_
                                                                                    exact ih18 (v_287, q18.2.1, q18.2.2.1, q18.2.2.2.1, q18.2.2.2.2.1, q18.2.2.2.2.2.1, q18.2.2.2.2.2.2.1, q18.2.2.2.2.2.2.2.1, q18.2.2.2.2.2.2.2.2) hf H locs ls hP hD hS (lv_sub hl [1, 2, 3, 0] rfl)
                                                                                  · replace hf := if_f c_286 hf
                                                                                    refine lv_iconst (v := 0) hx hb dL_law_1161 (by decide) ?_
                                                                                    exact absurd (Option.some.inj hf) (by decide)
                                                                                · replace hf := if_f c_281 hf
                                                                                  have ht : (((xs (q18.1).toNatClampNeg) &&& (63 : Int32))).toInt < 0 ∨ 38 < (((xs (q18.1).toNatClampNeg) &&& (63 : Int32))).toInt := by
                                                                                    have t0 := lv_neT (a := 0) c_3 (by decide +kernel)
                                                                                    have t1 := lv_neT (a := 1) c_10 (by decide +kernel)
                                                                                    have t2 := lv_neT (a := 2) c_15 (by decide +kernel)
                                                                                    have t3 := lv_neT (a := 3) c_24 (by decide +kernel)
                                                                                    have t4 := lv_neT (a := 4) c_33 (by decide +kernel)
                                                                                    have t5 := lv_neT (a := 5) c_40 (by decide +kernel)
                                                                                    have t6 := lv_neT (a := 6) c_49 (by decide +kernel)
                                                                                    have t7 := lv_neT (a := 7) c_58 (by decide +kernel)
                                                                                    have t8 := lv_neT (a := 8) c_67 (by decide +kernel)
                                                                                    have t9 := lv_neT (a := 9) c_78 (by decide +kernel)
                                                                                    have t10 := lv_neT (a := 10) c_85 (by decide +kernel)
                                                                                    have t11 := lv_neT (a := 11) c_96 (by decide +kernel)
                                                                                    have t12 := lv_neT (a := 12) c_105 (by decide +kernel)
                                                                                    have t13 := lv_neT (a := 13) c_110 (by decide +kernel)
                                                                                    have t14 := lv_neT (a := 14) c_119 (by decide +kernel)
                                                                                    have t15 := lv_neT (a := 15) c_128 (by decide +kernel)
                                                                                    have t16 := lv_neT (a := 16) c_133 (by decide +kernel)
                                                                                    have t17 := lv_neT (a := 17) c_140 (by decide +kernel)
                                                                                    have t18 := lv_neT (a := 18) c_145 (by decide +kernel)
                                                                                    have t19 := lv_neT (a := 19) c_150 (by decide +kernel)
                                                                                    have t20 := lv_neT (a := 20) c_155 (by decide +kernel)
                                                                                    have t21 := lv_neT (a := 21) c_162 (by decide +kernel)
                                                                                    have t22 := lv_neT (a := 22) c_169 (by decide +kernel)
                                                                                    have t23 := lv_neT (a := 23) c_176 (by decide +kernel)
                                                                                    have t24 := lv_neT (a := 24) c_183 (by decide +kernel)
                                                                                    have t25 := lv_neT (a := 25) c_188 (by decide +kernel)
                                                                                    have t26 := lv_neT (a := 26) c_195 (by decide +kernel)
                                                                                    have t27 := lv_neT (a := 27) c_200 (by decide +kernel)
                                                                                    have t28 := lv_neT (a := 28) c_209 (by decide +kernel)
                                                                                    have t29 := lv_neT (a := 29) c_222 (by decide +kernel)
                                                                                    have t30 := lv_neT (a := 30) c_229 (by decide +kernel)
                                                                                    have t31 := lv_neT (a := 31) c_234 (by decide +kernel)
                                                                                    have t32 := lv_neT (a := 32) c_243 (by decide +kernel)
                                                                                    have t33 := lv_neT (a := 33) c_250 (by decide +kernel)
                                                                                    have t34 := lv_neT (a := 34) c_255 (by decide +kernel)
                                                                                    have t35 := lv_neT (a := 35) c_260 (by decide +kernel)
                                                                                    have t36 := lv_neT (a := 36) c_271 (by decide +kernel)
                                                                                    have t37 := lv_neT (a := 37) c_276 (by decide +kernel)
                                                                                    have t38 := lv_neT (a := 38) c_281 (by decide +kernel)
                                                                                    omega
                                                                                  refine lv_tableOut (tgt := 1163) hx hb dL_law_32 ht (by decide) ?_
                                                                                  obtain ⟨v_288, ev_288, hf⟩ := nq_e hf
                                                                                  refine lv_iinc (v := v_288) (lv' := [(3, .int v_288), (0, .ref b), (1, .ref (A 0)), (2, .ref (B 0))]) hx hb dL_law_1163 hl (k := 3) rfl (by rw [ev_288]; rfl) (by decide) rfl (fun ls hl => ?_)
                                                                                  refine lv_goto (tgt := 18) hx hb dL_law_1166 (by decide) ?_
                                                                                  exact ih18 (v_288, q18.2.1, q18.2.2.1, q18.2.2.2.1, q18.2.2.2.2.1, q18.2.2.2.2.2.1, q18.2.2.2.2.2.2.1, q18.2.2.2.2.2.2.2.1, q18.2.2.2.2.2.2.2.2) hf H locs ls hP hD hS (lv_sub hl [1, 2, 3, 0] rfl)
set_option maxHeartbeats 4000000 in
theorem lw_walk (l : Launch) (hflags : l.flags = flags0) (b : Addr) (xs : List Int32) : MetFree l x (headSpec (Jvm.Cond.code x code maxLocals ret :: tables_1) room_1) (lw_P b xs) (fun _ _ _ _ _ => True) lw_Q := by
  refine MetFree.of_bodyS (code := code) (maxLocals := maxLocals) (ret := ret) (by decide) ?_ ?_
  · intro args s m h hn
    obtain ⟨meth, c, h1, h2, h3, h4, h5, h6, -, -⟩ := Cond.code_spec hn (atoms_spec (ws := Jvm.Cond.code x code maxLocals ret :: tables_1) h _ List.mem_cons_self)
    exact ⟨meth, c, h1, h2, h3, h4, h5, h6⟩
  · intro p e s m args below meth c s₁ B hml0 hP _
    obtain ⟨rfl, hx, hbd, hgv⟩ := hP
    obtain ⟨scr, harrAt, hlist, hof, hsmall⟩ := hx
    obtain ⟨hcb, hkn, -, -⟩ := State.arrayAt?_spec harrAt
    have hown : s.vm.findClass R_law = some m.cls := findClass_of_methodNamed B.named
    have hts0 : ∀ c ∈ (Jvm.Cond.code x code maxLocals ret :: tables_1), c.before #[Value.ref b] s = true := atoms_spec (ws := Jvm.Cond.code x code maxLocals ret :: tables_1) B.pre
    have hts : ∀ w ∈ lw_tbl, w.before #[Value.ref b] s = true := k2_hts_sels lw_privs (fun w hw => hts0 w (List.mem_cons_of_mem _ hw)) lw_privs_ok
    have hml : c.maxLocals = 4 := B.maxLocals_eq (hts0 _ List.mem_cons_self)
    have X₀ : Stand p l e room_1 s m #[Value.ref b] below meth c s₁ [] 0 0 := Stand.of_body B
    have hh0 : s₁.heap = s.heap := by rw [B.state]; rfl
    have hsz : scr.slots.size = xs.length := by rw [← Array.length_toList, hlist, List.length_map]
    have hval : ∀ j : Nat, j < xs.length → scr.slots[j]? = some (.int (xs.getD j 0)) := fun j hj => by
      rw [← Array.getElem?_toList, hlist]
      simp [hj]
    have hbl : b < s.heap.size := (Array.getElem?_eq_some_iff.mp hcb).1
    have hX : va_X b xs.length (fun j => xs.getD j 0) s s.heap := ⟨scr, hcb, hof, hkn, hsz, hval⟩
    have K : W p l e room_1 s m #[Value.ref b] below meth c s₁.heap [] 0 0 (lw_Z below #[Value.ref b] s) (entryFrame m ([Value.ref b] : List Value).toArray 4) := by
      rw [hh0]
      exact whole_start l hflags hbd ⟨B.exec, B.bytes, B.returns, hml, hown, hts, hX, hbl, B.notSynchronized, hgv⟩
    obtain ⟨t, a1, o, b1, b2, b3⟩ := K s₁ rfl X₀
    exact ⟨t, o, a1, b1, b2, b3⟩
theorem lw_pre_spec {args : Array Value} {s : State} (h : (Jvm.Cond.and given_1 narrow_1).before args s = true) (hr : rest_1_c.before args s = true) : ∃ (b : Addr) (xs : List Int32), lw_P b xs args s := by
  have hs := flat_of_before _ h
  have hq := flat_of_before _ hr
  have hc : (Cond.count 1).before args s = true := hs _ (by decide +kernel)
  have harr : (Cond.arrayOf (.arg 0) .int).before args s = true := hs _ (by decide +kernel)
  have hle : (Cond.le (.length (.arg 0)) (.int 2560)).before args s = true := hs _ (by decide +kernel)
  have hlen : (Cond.isInt (.length (.arg 0))).before args s = true := hq _ (by decide +kernel)
  have hall : (Cond.all (.arg 0) (.isInt (.elem (.arg 0) (.index 0)))).before args s = true := hq _ (by decide +kernel)
  obtain ⟨b, xs, hb, hx⟩ := State.ints_of_pre rfl harr hlen hall
  have hsm : xs.length < 2 ^ 31 := hx.choose_spec.2.2.2
  have hev : (Term.length (.arg 0)).eval args s none [] s = some (.int xs.length.toInt32) := hx.length_eval hb
  have hv := Cond.le_ints hev (show (Term.int 2560).eval args s none [] s = some (.int 2560) from rfl)
  have hd : xs.length.toInt32 ≤ 2560 := by
    simpa [Cond.before, Cond.holds, hv] using hle
  have hN : xs.length ≤ 2560 := (Int32.ofNat_le_ofNat hsm (by decide)).mp (show Int32.ofNat xs.length ≤ Int32.ofNat 2560 from hd)
  exact ⟨b, xs, Cond.one_arg hc (show args[0]? = some (.ref b) from hb), hx, hN, h⟩
theorem lw_comes (l : Launch) (hflags : l.flags = flags0) : Comes l x (Jvm.Cond.code x code maxLocals ret :: tables_1) room_1 (fun tb e args s => Calls_1 tb e args s ∧ rest_1 tb e args s ∧ Pre_1 tb e args s)
    (fun _ _ args s o t => lw_Q args s o t) := by
  intro p e ha hc hk s m args below hf hfit hheap happ hpre
  obtain ⟨b, xs, hP⟩ := lw_pre_spec hpre.2.2 hpre.2.1
  obtain ⟨k, o, h1, h2, h3, hQ⟩ := lw_walk l hflags b xs p e ha hc hk s m args below hf ((Spec.applies_iff_loose hf).mp happ).1 hP trivial
  exact ⟨k, o, h1, h2, h3, hQ⟩
theorem lw_frame {s t : State} {o : Outcome} {args : Array Value} (h : Framed s o t [] 51 983) :
    Framed s o t (fieldLocs frame_1_writes args s ++ arrayLocs frame_1_arrays args s ++ staticLocs frame_1_statics s) 51 983 := h
theorem lw_limb (L : Cond) (hL : ∀ (args : Array Value) (s t : State), L.after args s (.returned (some (.int 1))) t = true) :
    ArmFor flags0 classFile x code maxLocals ret World_1 tables_1 room_1 Calls_1 rest_1 Pre_1
      (fun tb e a s o t => postC L tb e a s o t ∧ Framed s o t (fieldLocs frame_1_writes a s ++ arrayLocs frame_1_arrays a s ++ staticLocs frame_1_statics s) 51 983) := by
  intro l hflags _ _ p e ha hc hk s m args below hf hfit hheap happ hpre
  obtain ⟨k, o, h1, h2, h3, rfl, hF⟩ := lw_comes l hflags p e ha hc hk s m args below hf hfit hheap happ hpre
  exact ⟨k, _, h1, h2, h3, hL args s _, lw_frame hF⟩
theorem i_vc : Claimed_1_1 ∧ Claimed_1_2 := ⟨lw_limb limb_1_1 (fun args s t => by simp [limb_1_1, Cond.after, Cond.holds, Cond.value]), lw_limb limb_1_2 (fun args s t => Cond.after_iff.mpr (by
  first | (rw [show limb_1_2 = Cond.eq .result (.int 1) from rfl, Cond.eq_ints (x := 1) (y := 1) rfl rfl]; simp; done) | (simp [limb_1_2, Cond.value, Term.eval]; done)))⟩

