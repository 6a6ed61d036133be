def rm_X5_sinsThen : Room := { frames := 3, cells := 0, slots := 0, locals := 65 }
theorem hd_X5_sinsThen : yX5_sinsThen.cls = RX5 ∧ yX5_sinsThen.cls ≠ "java/lang/invoke/MethodHandle" ∧ yX5_sinsThen.cls ≠ "java/lang/invoke/VarHandle" ∧ (parseMethodDescriptor yX5_sinsThen.desc).map (fun d => d.parameters.length) = some 2 := by decide +kernel
set_option maxRecDepth 100000 in
set_option maxHeartbeats 4000000 in
theorem c_X5_sinsThen (l : Launch) (D : va_G) (cI : ClassId) (A : Nat → Nat) (M : St) (p1 : Int32) (p2 : Int32) (r : Int32 × St) (hf : f_X5_sinsThen M p1 p2 = some r) : Ct l yX5_sinsThen wsX5_sinsThen rm_X5_sinsThen D cI (cM cI A M) (cM cI A r.2) [.ref (A 0), .int p1, .int p2] (some (.int r.1)) := by
  unfold f_X5_sinsThen at hf
  refine Ct.ofI (cc := cX5_sinsThen) (maxL := 5) (by decide +kernel) rfl (Nat.le_of_ble_eq_true rfl) ?_
  intro p e s m args below meth c AA Q H locs ls hx hb hml hown hts hA hK hP hD hS hl hend0
  have hend : ∀ (r1 : Int32 × St) (H : Heap) (locs : List Loc) (pc : Nat) (ls : Array Slot), some r1 = some r → va_P D vwCl (cM cI A r1.2) H → va_S AA s.heap H locs → decode cX5_sinsThen pc = .ok (.ireturn, 1) → W p l e rm_X5_sinsThen s m args below meth c H locs 0 0 Q (F0 m pc ls [.int r1.1]) := by
    intro r1 H locs pc ls e1 hP hS hd; cases e1; exact hend0 H locs pc ls hP hS hd
  clear hend0
  have hw5 : ∀ w ∈ wsX50, w ∈ wsX5_sinsThen := by decide +kernel
  have k28 := hts (.fieldLink RX5 28 "AnchorsForConfessionModel" "sins" "[I") (by decide +kernel)
  replace hl : lv_has ls 5 [(0, .ref (A 0)), (1, .int p1), (2, .int p2)] := hl
  refine lv_aload_n hx hb dX5_sinsThen_0 rfl (lv_at hl 0 rfl) ?_
  refine lv_iload_n hx hb dX5_sinsThen_1 rfl (lv_at hl 1 rfl) ?_
  obtain ⟨a_1, ha_1, hf⟩ := bd_e hf
  refine Ct.callV (As := [.int p1]) (rest := []) (st1 := [.int a_1]) (c_X5_isMan l D cI A M p1 a_1 ha_1) hx hb hml hown hts (cwV 1 hts gX5_sinsThen_X5_isMan rfl rfl rfl hd_X5_isMan ⟨Nat.le_of_ble_eq_true rfl, Nat.le_of_ble_eq_true rfl⟩) (va_recv hK hP (ci := 5) (q0 := 0) rfl cM_at0) (Ln.id rfl) hA hK hP hD hS rfl hl.1 rfl rfl (Nat.le_of_ble_eq_true rfl) dX5_sinsThen_2 (fun H locs hP hD hS => ?_)
  refine lv_if_ne (tgt := 12) hx hb dX5_sinsThen_5 (by decide) (fun c_2 => ?_) (fun c_2 => ?_)
  · replace hf := if_f c_2 hf
    refine lv_iload_n hx hb dX5_sinsThen_12 rfl (lv_at hl 2 rfl) ?_
    obtain ⟨a_3, ha_3, hf⟩ := bd_e hf
    refine Ct.callS (As := [.int p2]) (rest := []) (st1 := [.int a_3]) (c_X5_notTides l D cI  p2 a_3 ha_3) hx hb hml hown hts (va_cwS 1 hts gX5_sinsThen_X5_notTides rfl rfl rfl hd_X5_notTides ⟨Nat.le_of_ble_eq_true rfl, Nat.le_of_ble_eq_true rfl⟩) Ln.nil hA hK hP hD hS rfl hl.1 rfl rfl (Nat.le_of_ble_eq_true rfl) dX5_sinsThen_13 (fun H locs hP hD hS => ?_)
    refine lv_istore_n (lv' := [(3, .int a_3), (0, .ref (A 0)), (1, .int p1), (2, .int p2)]) hx hb dX5_sinsThen_16 rfl hl (by decide) rfl (fun ls hl => ?_)
    refine lv_iload_n hx hb dX5_sinsThen_17 rfl (lv_at hl 0 rfl) ?_
    refine lv_if_eq (tgt := 27) hx hb dX5_sinsThen_18 (by decide) (fun c_4 => ?_) (fun c_4 => ?_)
    · replace hf := if_t c_4 hf
      refine lv_aload_n hx hb dX5_sinsThen_27 rfl (lv_at hl 1 rfl) ?_
      obtain ⟨a_5, ha_5, hf⟩ := bd_e hf
      refine Ct.callV (As := []) (rest := []) (st1 := []) (c_X5_thinks l D cI A M a_5 ha_5) hx hb hml hown hts (cwV 0 hts gX5_sinsThen_X5_thinks rfl rfl rfl hd_X5_thinks ⟨Nat.le_of_ble_eq_true rfl, Nat.le_of_ble_eq_true rfl⟩) (va_recv hK hP (ci := 5) (q0 := 0) rfl cM_at0) (Ln.id rfl) hA hK hP hD hS rfl hl.1 rfl rfl (Nat.le_of_ble_eq_true rfl) dX5_sinsThen_28 (fun H locs hP hD hS => ?_)
      replace hP : va_P D vwCl (cM cI A a_5) H := hP
      replace hD : va_D AA (cM cI A a_5) := hD
      refine lv_aload_n hx hb dX5_sinsThen_31 rfl (lv_at hl 1 rfl) ?_
      refine lv_iload_n hx hb dX5_sinsThen_32 rfl (lv_at hl 3 rfl) ?_
      obtain ⟨a_6, ha_6, hf⟩ := bd_e hf
      refine Ct.callV (As := [.int p2]) (rest := []) (st1 := []) (c_X5_goes l D cI A a_5 p2 a_6 ha_6) hx hb hml hown hts (cwV 1 hts gX5_sinsThen_X5_goes rfl rfl rfl hd_X5_goes ⟨Nat.le_of_ble_eq_true rfl, Nat.le_of_ble_eq_true rfl⟩) (va_recv hK hP (ci := 5) (q0 := 0) rfl cM_at0) (Ln.id rfl) hA hK hP hD hS rfl hl.1 rfl rfl (Nat.le_of_ble_eq_true rfl) dX5_sinsThen_33 (fun H locs hP hD hS => ?_)
      replace hP : va_P D vwCl (cM cI A a_6) H := hP
      replace hD : va_D AA (cM cI A a_6) := hD
      refine lv_aload_n hx hb dX5_sinsThen_36 rfl (lv_at hl 1 rfl) ?_
      refine va_get (D := D) (ci := 5) (v := .ref (A 7)) (C := RX5) (T := TX5) (N := 27) hx hb hts hw5 hown hK hP 0 cM_at0 rfl 6 (by decide) k28 (fun _ h9 => h9) rfl dX5_sinsThen_37 ?_
      refine lv_iload_n hx hb dX5_sinsThen_40 rfl (lv_at hl 2 rfl) ?_
      obtain ⟨c_7, hf⟩ := gi_e hf
      refine va_iald hx hb hK hP 7 0 cM_at7 rfl c_7 dX5_sinsThen_41 ?_
      refine lv_topi (fun v_8 ev_8 => ?_)
      replace hf := nm_at ev_8 hf
      refine lv_istore (lv' := [(4, .int v_8), (3, .int a_3), (0, .ref (A 0)), (1, .int p1), (2, .int p2)]) hx hb dX5_sinsThen_42 hl (by decide) rfl (fun ls hl => ?_)
      refine lv_aload_n hx hb dX5_sinsThen_44 rfl (lv_at hl 2 rfl) ?_
      obtain ⟨a_9, ha_9, hf⟩ := bd_e hf
      refine Ct.callV (As := []) (rest := []) (st1 := []) (c_X5_forgets l D cI A a_6 a_9 ha_9) hx hb hml hown hts (cwV 0 hts gX5_sinsThen_X5_forgets rfl rfl rfl hd_X5_forgets ⟨Nat.le_of_ble_eq_true rfl, Nat.le_of_ble_eq_true rfl⟩) (va_recv hK hP (ci := 5) (q0 := 0) rfl cM_at0) (Ln.id rfl) hA hK hP hD hS rfl hl.1 rfl rfl (Nat.le_of_ble_eq_true rfl) dX5_sinsThen_45 (fun H locs hP hD hS => ?_)
      replace hP : va_P D vwCl (cM cI A a_9) H := hP
      replace hD : va_D AA (cM cI A a_9) := hD
      refine lv_iload hx hb dX5_sinsThen_48 (lv_at hl 0 rfl) ?_
      exact hend (v_8, a_9) H locs _ _ hf hP hS dX5_sinsThen_50
    · replace hf := if_f c_4 hf
      refine lv_aload_n hx hb dX5_sinsThen_21 rfl (lv_at hl 1 rfl) ?_
      refine lv_iload_n hx hb dX5_sinsThen_22 rfl (lv_at hl 0 rfl) ?_
      obtain ⟨a_10, ha_10, hf⟩ := bd_e hf
      refine Ct.callV (As := [.int a_3]) (rest := []) (st1 := [.int a_10.1]) (c_X5_no l D cI A M a_3 a_10 ha_10) hx hb hml hown hts (cwV 1 hts gX5_sinsThen_X5_no rfl rfl rfl hd_X5_no ⟨Nat.le_of_ble_eq_true rfl, Nat.le_of_ble_eq_true rfl⟩) (va_recv hK hP (ci := 5) (q0 := 0) rfl cM_at0) (Ln.id rfl) hA hK hP hD hS rfl hl.1 rfl rfl (Nat.le_of_ble_eq_true rfl) dX5_sinsThen_23 (fun H locs hP hD hS => ?_)
      replace hP : va_P D vwCl (cM cI A a_10.2) H := hP
      replace hD : va_D AA (cM cI A a_10.2) := hD
      exact hend (a_10.1, a_10.2) H locs _ _ hf hP hS dX5_sinsThen_26
  · replace hf := if_t c_2 hf
    refine lv_iconst (v := -1) hx hb dX5_sinsThen_8 (by decide) ?_
    refine lv_goto (tgt := 16) hx hb dX5_sinsThen_9 (by decide) ?_
    refine lv_istore_n (lv' := [(3, .int (-1 : Int32)), (0, .ref (A 0)), (1, .int p1), (2, .int p2)]) hx hb dX5_sinsThen_16 rfl hl (by decide) rfl (fun ls hl => ?_)
    refine lv_iload_n hx hb dX5_sinsThen_17 rfl (lv_at hl 0 rfl) ?_
    refine lv_if_eq (tgt := 27) hx hb dX5_sinsThen_18 (by decide) (fun c0 => absurd c0 (by decide)) (fun _ => ?_)
    refine lv_aload_n hx hb dX5_sinsThen_21 rfl (lv_at hl 1 rfl) ?_
    refine lv_iload_n hx hb dX5_sinsThen_22 rfl (lv_at hl 0 rfl) ?_
    obtain ⟨a_11, ha_11, hf⟩ := bd_e hf
    refine Ct.callV (As := [.int (-1 : Int32)]) (rest := []) (st1 := [.int a_11.1]) (c_X5_no l D cI A M (-1 : Int32) a_11 ha_11) hx hb hml hown hts (cwV 1 hts gX5_sinsThen_X5_no rfl rfl rfl hd_X5_no ⟨Nat.le_of_ble_eq_true rfl, Nat.le_of_ble_eq_true rfl⟩) (va_recv hK hP (ci := 5) (q0 := 0) rfl cM_at0) (Ln.id rfl) hA hK hP hD hS rfl hl.1 rfl rfl (Nat.le_of_ble_eq_true rfl) dX5_sinsThen_23 (fun H locs hP hD hS => ?_)
    replace hP : va_P D vwCl (cM cI A a_11.2) H := hP
    replace hD : va_D AA (cM cI A a_11.2) := hD
    exact hend (a_11.1, a_11.2) H locs _ _ hf hP hS dX5_sinsThen_26

def rm_X5_canRise : Room := { frames := 3, cells := 0, slots := 0, locals := 69 }
theorem hd_X5_canRise : yX5_canRise.cls = RX5 ∧ yX5_canRise.cls ≠ "java/lang/invoke/MethodHandle" ∧ yX5_canRise.cls ≠ "java/lang/invoke/VarHandle" ∧ (parseMethodDescriptor yX5_canRise.desc).map (fun d => d.parameters.length) = some 1 := by decide +kernel
set_option maxRecDepth 100000 in
set_option maxHeartbeats 4000000 in
theorem c_X5_canRise (l : Launch) (D : va_G) (cI : ClassId) (A : Nat → Nat) (M : St) (p1 : Int32) (r : Int32) (hf : f_X5_canRise M p1 = some r) : Ct l yX5_canRise wsX5_canRise rm_X5_canRise D cI (cM cI A M) (cM cI A M) [.ref (A 0), .int p1] (some (.int r)) := by
  unfold f_X5_canRise at hf
  obtain ⟨hz, hf⟩ := fz_e hf
  refine Ct.ofZ hz (cc := cX5_canRise) (maxL := 2) (by decide +kernel) rfl (Nat.le_of_ble_eq_true rfl) ?_
  intro p e s m args below meth c AA Q H locs ls hx hb hml hown hts hA hK hP hD hS hl hend0
  have hend : ∀ (r1 : Int32) (H : Heap) (locs : List Loc) (pc : Nat) (ls : Array Slot), some r1 = some r → va_P D vwCl (cM cI A M) H → va_S AA s.heap H locs → decode cX5_canRise pc = .ok (.ireturn, 1) → W p l e rm_X5_canRise s m args below meth c H locs 0 0 Q (F0 m pc ls [.int r1]) := by
    intro r1 H locs pc ls e1 hP hS hd; cases e1; exact hend0 H locs pc ls hP hS hd
  clear hend0
  have hw5 : ∀ w ∈ wsX50, w ∈ wsX5_canRise := by decide +kernel
  have k19 := hts (.fieldLink RX5 19 "AnchorsForConfessionModel" "out" "[I") (by decide +kernel)
  replace hl : lv_has ls 2 [(0, .ref (A 0)), (1, .int p1)] := hl
  refine lv_aload_n hx hb dX5_canRise_0 rfl (lv_at hl 0 rfl) ?_
  refine va_get (D := D) (ci := 5) (v := .ref (A 4)) (C := RX5) (T := TX5) (N := 27) hx hb hts hw5 hown hK hP 0 cM_at0 rfl 3 (by decide) k19 (fun _ h9 => h9) rfl dX5_canRise_1 ?_
  refine lv_iload_n hx hb dX5_canRise_4 rfl (lv_at hl 1 rfl) ?_
  obtain ⟨c_1, hf⟩ := gi_e hf
  refine va_iald hx hb hK hP 4 0 cM_at4 rfl c_1 dX5_canRise_5 ?_
  refine lv_if_ne (tgt := 26) hx hb dX5_canRise_6 (by decide) (fun c_2 => ?_) (fun c_2 => ?_)
  · replace hf := if_f c_2 hf
    refine lv_iconst (v := 0) hx hb dX5_canRise_26 (by decide) ?_
    exact hend (0 : Int32) H locs _ _ hf hP hS dX5_canRise_27
  · replace hf := if_t c_2 hf
    refine lv_aload_n hx hb dX5_canRise_9 rfl (lv_at hl 0 rfl) ?_
    refine lv_iload_n hx hb dX5_canRise_10 rfl (lv_at hl 1 rfl) ?_
    obtain ⟨a_3, ha_3, hf⟩ := bd_e hf
    refine Ct.callV (As := [.int p1]) (rest := []) (st1 := [.int a_3]) (c_X5_pool l D cI A M p1 a_3 ha_3) hx hb hml hown hts (cwV 1 hts gX5_canRise_X5_pool rfl rfl rfl hd_X5_pool ⟨Nat.le_of_ble_eq_true rfl, Nat.le_of_ble_eq_true rfl⟩) (va_recv hK hP (ci := 5) (q0 := 0) rfl cM_at0) (Ln.id rfl) hA hK hP hD hS rfl hl.1 rfl rfl (Nat.le_of_ble_eq_true rfl) dX5_canRise_11 (fun H locs hP hD hS => ?_)
    refine lv_aload_n hx hb dX5_canRise_14 rfl (lv_at hl 0 rfl) ?_
    refine lv_iload_n hx hb dX5_canRise_15 rfl (lv_at hl 1 rfl) ?_
    obtain ⟨a_4, ha_4, hf⟩ := bd_e hf
    refine Ct.callV (As := [.int p1]) (rest := [.int a_3]) (st1 := [.int a_4, .int a_3]) (c_X5_lacks l D cI A M p1 a_4 ha_4) hx hb hml hown hts (cwV 1 hts gX5_canRise_X5_lacks rfl rfl rfl hd_X5_lacks ⟨Nat.le_of_ble_eq_true rfl, Nat.le_of_ble_eq_true rfl⟩) (va_recv hK hP (ci := 5) (q0 := 0) rfl cM_at0) (Ln.id rfl) hA hK hP hD hS rfl hl.1 rfl rfl (Nat.le_of_ble_eq_true rfl) dX5_canRise_16 (fun H locs hP hD hS => ?_)
    refine lv_icmp_lt (tgt := 26) hx hb dX5_canRise_19 (by decide) (fun c_5 => ?_) (fun c_5 => ?_)
    · replace hf := if_t c_5 hf
      refine lv_iconst (v := 0) hx hb dX5_canRise_26 (by decide) ?_
      exact hend (0 : Int32) H locs _ _ hf hP hS dX5_canRise_27
    · replace hf := if_f c_5 hf
      refine lv_iconst (v := 1) hx hb dX5_canRise_22 (by decide) ?_
      refine lv_goto (tgt := 27) hx hb dX5_canRise_23 (by decide) ?_
      exact hend (1 : Int32) H locs _ _ hf hP hS dX5_canRise_27

def rm_X5_fixture : Room := { frames := 4, cells := 0, slots := 0, locals := 90 }
theorem hd_X5_fixture : yX5_fixture.cls = RX5 ∧ yX5_fixture.cls ≠ "java/lang/invoke/MethodHandle" ∧ yX5_fixture.cls ≠ "java/lang/invoke/VarHandle" ∧ (parseMethodDescriptor yX5_fixture.desc).map (fun d => d.parameters.length) = some 0 := by decide +kernel
set_option maxRecDepth 100000 in
set_option maxHeartbeats 4000000 in
theorem c_X5_fixture (l : Launch) (D : va_G) (cI : ClassId) (A : Nat → Nat) (M : St) (r : Int32) (hf : f_X5_fixture M = some r) : Ct l yX5_fixture wsX5_fixture rm_X5_fixture D cI (cM cI A M) (cM cI A M) [.ref (A 0)] (some (.int r)) := by
  unfold f_X5_fixture at hf
  refine Ct.ofI (cc := cX5_fixture) (maxL := 3) (by decide +kernel) rfl (Nat.le_of_ble_eq_true rfl) ?_
  intro p e s m args below meth c AA Q H locs ls hx hb hml hown hts hA hK hP hD hS hl hend0
  have hend : ∀ (r1 : Int32) (H : Heap) (locs : List Loc) (pc : Nat) (ls : Array Slot), some r1 = some r → va_P D vwCl (cM cI A M) H → va_S AA s.heap H locs → decode cX5_fixture pc = .ok (.ireturn, 1) → W p l e rm_X5_fixture s m args below meth c H locs 0 0 Q (F0 m pc ls [.int r1]) := by
    intro r1 H locs pc ls e1 hP hS hd; cases e1; exact hend0 H locs pc ls hP hS hd
  clear hend0
  have hw5 : ∀ w ∈ wsX50, w ∈ wsX5_fixture := by decide +kernel
  have k19 := hts (.fieldLink RX5 19 "AnchorsForConfessionModel" "out" "[I") (by decide +kernel)
  have k58 := hts (.fieldLink RX5 58 "AnchorsForConfessionModel" "ships" "I") (by decide +kernel)
  replace hl : lv_has ls 3 [(0, .ref (A 0))] := hl
  refine lv_iconst (v := 0) hx hb dX5_fixture_0 (by decide) ?_
  refine lv_istore_n (lv' := [(1, .int (0 : Int32)), (0, .ref (A 0))]) hx hb dX5_fixture_1 rfl hl (by decide) rfl (fun ls hl => ?_)
  refine lv_iconst (v := 0) hx hb dX5_fixture_2 (by decide) ?_
  refine lv_istore_n (lv' := [(2, .int (0 : Int32)), (1, .int (0 : Int32)), (0, .ref (A 0))]) hx hb dX5_fixture_3 rfl hl (by decide) rfl (fun ls hl => ?_)
  refine lp_ind (P := fun (q4 : Int32 × Int32) => ∀ (H : Heap) (locs : List Loc) (ls : Array Slot), va_P D vwCl (cM cI A M) H → va_D AA (cM cI A M) → va_S AA s.heap H locs → lv_has ls 3 [(0, .ref (A 0)), (1, .int q4.1), (2, .int q4.2)] → W p l e rm_X5_fixture s m args below meth c H locs 0 0 Q (F0 m 4 ls [])) hf ?_ H locs ls hP hD hS (lv_sub hl [2, 1, 0] rfl)
  clear hf hP hD hS hl
  intro nx4 ih4 q4 hf H locs ls hP hD hS hl
  refine lv_iload_n hx hb dX5_fixture_4 rfl (lv_at hl 2 rfl) ?_
  refine lv_aload_n hx hb dX5_fixture_5 rfl (lv_at hl 0 rfl) ?_
  refine va_get (D := D) (ci := 5) (v := .int (M 16 0)) (C := RX5) (T := TX5) (N := 27) hx hb hts hw5 hown hK hP 0 cM_at0 rfl 8 (by decide) k58 (fun _ h9 => h9) rfl dX5_fixture_6 ?_
  refine lv_icmp_ge (tgt := 45) hx hb dX5_fixture_9 (by decide) (fun c_1 => ?_) (fun c_1 => ?_)
  · replace hf := if_t c_1 hf
    refine lv_iload_n hx hb dX5_fixture_45 rfl (lv_at hl 1 rfl) ?_
    exact hend q4.1 H locs _ _ hf hP hS dX5_fixture_46
  · replace hf := if_f c_1 hf
    refine lv_iload_n hx hb dX5_fixture_12 rfl (lv_at hl 1 rfl) ?_
    refine lv_aload_n hx hb dX5_fixture_13 rfl (lv_at hl 0 rfl) ?_
    refine va_get (D := D) (ci := 5) (v := .ref (A 4)) (C := RX5) (T := TX5) (N := 27) hx hb hts hw5 hown hK hP 0 cM_at0 rfl 3 (by decide) k19 (fun _ h9 => h9) rfl dX5_fixture_14 ?_
    refine lv_iload_n hx hb dX5_fixture_17 rfl (lv_at hl 2 rfl) ?_
    obtain ⟨c_2, hf⟩ := gi_e hf
    refine va_iald hx hb hK hP 4 0 cM_at4 rfl c_2 dX5_fixture_18 ?_
    refine lv_if_ne (tgt := 36) hx hb dX5_fixture_19 (by decide) (fun c_3 => ?_) (fun c_3 => ?_)
    · replace hf := if_f c_3 hf
      refine lv_iconst (v := 0) hx hb dX5_fixture_36 (by decide) ?_
      refine lv_ior hx hb dX5_fixture_37 ?_
      refine lv_topi (fun v_4 ev_4 => ?_)
      replace hf := nm_at ev_4 hf
      refine lv_istore_n (lv' := [(1, .int v_4), (0, .ref (A 0)), (2, .int q4.2)]) hx hb dX5_fixture_38 rfl hl (by decide) rfl (fun ls hl => ?_)
      obtain ⟨v_5, ev_5, hf⟩ := nq_e hf
      refine lv_iinc (v := v_5) (lv' := [(2, .int v_5), (1, .int v_4), (0, .ref (A 0))]) hx hb dX5_fixture_39 hl (k := 2) rfl (by rw [ev_5]; rfl) (by decide) rfl (fun ls hl => ?_)
      refine lv_goto (tgt := 4) hx hb dX5_fixture_42 (by decide) ?_
      exact ih4 (v_4, v_5) hf H locs ls hP hD hS (lv_sub hl [2, 1, 0] rfl)
    · replace hf := if_t c_3 hf
      refine lv_aload_n hx hb dX5_fixture_22 rfl (lv_at hl 0 rfl) ?_
      refine lv_iload_n hx hb dX5_fixture_23 rfl (lv_at hl 2 rfl) ?_
      obtain ⟨a_6, ha_6, hf⟩ := bd_e hf
      refine Ct.callV (As := [.int q4.2]) (rest := [.int q4.1]) (st1 := [.int a_6, .int q4.1]) (c_X5_canRise l D cI A M q4.2 a_6 ha_6) hx hb hml hown hts (cwV 1 hts gX5_fixture_X5_canRise rfl rfl rfl hd_X5_canRise ⟨Nat.le_of_ble_eq_true rfl, Nat.le_of_ble_eq_true rfl⟩) (va_recv hK hP (ci := 5) (q0 := 0) rfl cM_at0) (Ln.id rfl) hA hK hP hD hS rfl hl.1 rfl rfl (Nat.le_of_ble_eq_true rfl) dX5_fixture_24 (fun H locs hP hD hS => ?_)
      refine lv_if_ne (tgt := 36) hx hb dX5_fixture_27 (by decide) (fun c_7 => ?_) (fun c_7 => ?_)
      · replace hf := if_f c_7 hf
        refine lv_iconst (v := 0) hx hb dX5_fixture_36 (by decide) ?_
        refine lv_ior hx hb dX5_fixture_37 ?_
        refine lv_topi (fun v_8 ev_8 => ?_)
        replace hf := nm_at ev_8 hf
        refine lv_istore_n (lv' := [(1, .int v_8), (0, .ref (A 0)), (2, .int q4.2)]) hx hb dX5_fixture_38 rfl hl (by decide) rfl (fun ls hl => ?_)
        obtain ⟨v_9, ev_9, hf⟩ := nq_e hf
        refine lv_iinc (v := v_9) (lv' := [(2, .int v_9), (1, .int v_8), (0, .ref (A 0))]) hx hb dX5_fixture_39 hl (k := 2) rfl (by rw [ev_9]; rfl) (by decide) rfl (fun ls hl => ?_)
        refine lv_goto (tgt := 4) hx hb dX5_fixture_42 (by decide) ?_
        exact ih4 (v_8, v_9) hf H locs ls hP hD hS (lv_sub hl [2, 1, 0] rfl)
      · replace hf := if_t c_7 hf
        refine lv_iconst (v := 1) hx hb dX5_fixture_30 (by decide) ?_
        refine lv_iload_n hx hb dX5_fixture_31 rfl (lv_at hl 2 rfl) ?_
        refine lv_ishl hx hb dX5_fixture_32 ?_
        refine lv_goto (tgt := 37) hx hb dX5_fixture_33 (by decide) ?_
        refine lv_ior hx hb dX5_fixture_37 ?_
        refine lv_topi (fun v_10 ev_10 => ?_)
        replace hf := nm_at ev_10 hf
        refine lv_istore_n (lv' := [(1, .int v_10), (0, .ref (A 0)), (2, .int q4.2)]) hx hb dX5_fixture_38 rfl hl (by decide) rfl (fun ls hl => ?_)
        obtain ⟨v_11, ev_11, hf⟩ := nq_e hf
        refine lv_iinc (v := v_11) (lv' := [(2, .int v_11), (1, .int v_10), (0, .ref (A 0))]) hx hb dX5_fixture_39 hl (k := 2) rfl (by rw [ev_11]; rfl) (by decide) rfl (fun ls hl => ?_)
        refine lv_goto (tgt := 4) hx hb dX5_fixture_42 (by decide) ?_
        exact ih4 (v_10, v_11) hf H locs ls hP hD hS (lv_sub hl [2, 1, 0] rfl)

def rm_X5_loudestLeft : Room := { frames := 2, cells := 0, slots := 0, locals := 45 }
theorem hd_X5_loudestLeft : yX5_loudestLeft.cls = RX5 ∧ yX5_loudestLeft.cls ≠ "java/lang/invoke/MethodHandle" ∧ yX5_loudestLeft.cls ≠ "java/lang/invoke/VarHandle" ∧ (parseMethodDescriptor yX5_loudestLeft.desc).map (fun d => d.parameters.length) = some 1 := by decide +kernel
set_option maxRecDepth 100000 in
set_option maxHeartbeats 4000000 in
theorem c_X5_loudestLeft (l : Launch) (D : va_G) (cI : ClassId) (A : Nat → Nat) (M : St) (p1 : Int32) (r : Int32) (hf : f_X5_loudestLeft M p1 = some r) : Ct l yX5_loudestLeft wsX5_loudestLeft rm_X5_loudestLeft D cI (cM cI A M) (cM cI A M) [.ref (A 0), .int p1] (some (.int r)) := by
  unfold f_X5_loudestLeft at hf
  refine Ct.ofI (cc := cX5_loudestLeft) (maxL := 4) (by decide +kernel) rfl (Nat.le_of_ble_eq_true rfl) ?_
  intro p e s m args below meth c AA Q H locs ls hx hb hml hown hts hA hK hP hD hS hl hend0
  have hend : ∀ (r1 : Int32) (H : Heap) (locs : List Loc) (pc : Nat) (ls : Array Slot), some r1 = some r → va_P D vwCl (cM cI A M) H → va_S AA s.heap H locs → decode cX5_loudestLeft pc = .ok (.ireturn, 1) → W p l e rm_X5_loudestLeft s m args below meth c H locs 0 0 Q (F0 m pc ls [.int r1]) := by
    intro r1 H locs pc ls e1 hP hS hd; cases e1; exact hend0 H locs pc ls hP hS hd
  clear hend0
  have hw5 : ∀ w ∈ wsX50, w ∈ wsX5_loudestLeft := by decide +kernel
  have k28 := hts (.fieldLink RX5 28 "AnchorsForConfessionModel" "sins" "[I") (by decide +kernel)
  have k31 := hts (.fieldLink RX5 31 "AnchorsForConfessionModel" "aboard" "[I") (by decide +kernel)
  have k49 := hts (.fieldLink RX5 49 "AnchorsForConfessionModel" "words" "[I") (by decide +kernel)
  have k65 := hts (.fieldLink RX5 65 "AnchorsForConfessionModel" "men" "I") (by decide +kernel)
  replace hl : lv_has ls 4 [(0, .ref (A 0)), (1, .int p1)] := hl
  refine lv_bipush (v := -9) hx hb dX5_loudestLeft_0 (by decide +kernel) ?_
  refine lv_istore_n (lv' := [(2, .int (-9 : Int32)), (0, .ref (A 0)), (1, .int p1)]) hx hb dX5_loudestLeft_2 rfl hl (by decide) rfl (fun ls hl => ?_)
  refine lv_iconst (v := 0) hx hb dX5_loudestLeft_3 (by decide) ?_
  refine lv_istore_n (lv' := [(3, .int (0 : Int32)), (2, .int (-9 : Int32)), (0, .ref (A 0)), (1, .int p1)]) hx hb dX5_loudestLeft_4 rfl hl (by decide) rfl (fun ls hl => ?_)
  refine lp_ind (P := fun (q5 : Int32 × Int32) => ∀ (H : Heap) (locs : List Loc) (ls : Array Slot), va_P D vwCl (cM cI A M) H → va_D AA (cM cI A M) → va_S AA s.heap H locs → lv_has ls 4 [(0, .ref (A 0)), (1, .int p1), (2, .int q5.1), (3, .int q5.2)] → W p l e rm_X5_loudestLeft s m args below meth c H locs 0 0 Q (F0 m 5 ls [])) hf ?_ H locs ls hP hD hS (lv_sub hl [2, 3, 1, 0] rfl)
  clear hf hP hD hS hl
  intro nx5 ih5 q5 hf H locs ls hP hD hS hl
  refine lv_iload_n hx hb dX5_loudestLeft_5 rfl (lv_at hl 3 rfl) ?_
  refine lv_aload_n hx hb dX5_loudestLeft_6 rfl (lv_at hl 0 rfl) ?_
  refine va_get (D := D) (ci := 5) (v := .int (M 16 1)) (C := RX5) (T := TX5) (N := 27) hx hb hts hw5 hown hK hP 0 cM_at0 rfl 9 (by decide) k65 (fun _ h9 => h9) rfl dX5_loudestLeft_7 ?_
  refine lv_icmp_ge (tgt := 71) hx hb dX5_loudestLeft_10 (by decide) (fun c_1 => ?_) (fun c_1 => ?_)
  · replace hf := if_t c_1 hf
    refine lv_iload_n hx hb dX5_loudestLeft_71 rfl (lv_at hl 2 rfl) ?_
    exact hend q5.1 H locs _ _ hf hP hS dX5_loudestLeft_72
  · replace hf := if_f c_1 hf
    refine lv_aload_n hx hb dX5_loudestLeft_13 rfl (lv_at hl 0 rfl) ?_
    refine va_get (D := D) (ci := 5) (v := .ref (A 8)) (C := RX5) (T := TX5) (N := 27) hx hb hts hw5 hown hK hP 0 cM_at0 rfl 7 (by decide) k31 (fun _ h9 => h9) rfl dX5_loudestLeft_14 ?_
    refine lv_iload_n hx hb dX5_loudestLeft_17 rfl (lv_at hl 3 rfl) ?_
    obtain ⟨c_2, hf⟩ := gi_e hf
    refine va_iald hx hb hK hP 8 0 cM_at8 rfl c_2 dX5_loudestLeft_18 ?_
    refine lv_iload_n hx hb dX5_loudestLeft_19 rfl (lv_at hl 1 rfl) ?_
    refine lv_icmp_ne (tgt := 65) hx hb dX5_loudestLeft_20 (by decide) (fun c_3 => ?_) (fun c_3 => ?_)
    · replace hf := if_f c_3 hf
      obtain ⟨v_4, ev_4, hf⟩ := nq_e hf
      refine lv_iinc (v := v_4) (lv' := [(3, .int v_4), (0, .ref (A 0)), (1, .int p1), (2, .int q5.1)]) hx hb dX5_loudestLeft_65 hl (k := 3) rfl (by rw [ev_4]; rfl) (by decide) rfl (fun ls hl => ?_)
      refine lv_goto (tgt := 5) hx hb dX5_loudestLeft_68 (by decide) ?_
      exact ih5 (q5.1, v_4) hf H locs ls hP hD hS (lv_sub hl [1, 2, 3, 0] rfl)
    · replace hf := if_t c_3 hf
      refine lv_aload_n hx hb dX5_loudestLeft_23 rfl (lv_at hl 0 rfl) ?_
      refine va_get (D := D) (ci := 5) (v := .ref (A 14)) (C := RX5) (T := TX5) (N := 27) hx hb hts hw5 hown hK hP 0 cM_at0 rfl 23 (by decide) k49 (fun _ h9 => h9) rfl dX5_loudestLeft_24 ?_
      refine lv_iload_n hx hb dX5_loudestLeft_27 rfl (lv_at hl 3 rfl) ?_
      obtain ⟨c_5, hf⟩ := gi_e hf
      refine va_iald hx hb hK hP 14 0 cM_at14 rfl c_5 dX5_loudestLeft_28 ?_
      refine lv_aload_n hx hb dX5_loudestLeft_29 rfl (lv_at hl 0 rfl) ?_
      refine va_get (D := D) (ci := 5) (v := .ref (A 7)) (C := RX5) (T := TX5) (N := 27) hx hb hts hw5 hown hK hP 0 cM_at0 rfl 6 (by decide) k28 (fun _ h9 => h9) rfl dX5_loudestLeft_30 ?_
      refine lv_iload_n hx hb dX5_loudestLeft_33 rfl (lv_at hl 3 rfl) ?_
      obtain ⟨c_6, hf⟩ := gi_e hf
      refine va_iald hx hb hK hP 7 0 cM_at7 rfl c_6 dX5_loudestLeft_34 ?_
      refine lv_icmp_ge (tgt := 65) hx hb dX5_loudestLeft_35 (by decide) (fun c_7 => ?_) (fun c_7 => ?_)
      · replace hf := if_t c_7 hf
        obtain ⟨v_8, ev_8, hf⟩ := nq_e hf
        refine lv_iinc (v := v_8) (lv' := [(3, .int v_8), (0, .ref (A 0)), (1, .int p1), (2, .int q5.1)]) hx hb dX5_loudestLeft_65 hl (k := 3) rfl (by rw [ev_8]; rfl) (by decide) rfl (fun ls hl => ?_)
        refine lv_goto (tgt := 5) hx hb dX5_loudestLeft_68 (by decide) ?_
        exact ih5 (q5.1, v_8) hf H locs ls hP hD hS (lv_sub hl [1, 2, 3, 0] rfl)
      · replace hf := if_f c_7 hf
        refine lv_aload_n hx hb dX5_loudestLeft_38 rfl (lv_at hl 0 rfl) ?_
        refine lv_iload_n hx hb dX5_loudestLeft_39 rfl (lv_at hl 3 rfl) ?_
        obtain ⟨a_9, ha_9, hf⟩ := bd_e hf
        refine Ct.callV (As := [.int q5.2]) (rest := []) (st1 := [.int a_9]) (c_X5_worth l D cI A M q5.2 a_9 ha_9) hx hb hml hown hts (cwV 1 hts gX5_loudestLeft_X5_worth rfl rfl rfl hd_X5_worth ⟨Nat.le_of_ble_eq_true rfl, Nat.le_of_ble_eq_true rfl⟩) (va_recv hK hP (ci := 5) (q0 := 0) rfl cM_at0) (Ln.id rfl) hA hK hP hD hS rfl hl.1 rfl rfl (Nat.le_of_ble_eq_true rfl) dX5_loudestLeft_40 (fun H locs hP hD hS => ?_)
        refine lv_if_le (tgt := 65) hx hb dX5_loudestLeft_43 (by decide) (fun c_10 => ?_) (fun c_10 => ?_)
        · replace hf := if_t c_10 hf
          obtain ⟨v_11, ev_11, hf⟩ := nq_e hf
          refine lv_iinc (v := v_11) (lv' := [(3, .int v_11), (0, .ref (A 0)), (1, .int p1), (2, .int q5.1)]) hx hb dX5_loudestLeft_65 hl (k := 3) rfl (by rw [ev_11]; rfl) (by decide) rfl (fun ls hl => ?_)
          refine lv_goto (tgt := 5) hx hb dX5_loudestLeft_68 (by decide) ?_
          exact ih5 (q5.1, v_11) hf H locs ls hP hD hS (lv_sub hl [1, 2, 3, 0] rfl)
        · replace hf := if_f c_10 hf
          refine lv_iload_n hx hb dX5_loudestLeft_46 rfl (lv_at hl 2 rfl) ?_
          refine lv_if_lt (tgt := 63) hx hb dX5_loudestLeft_47 (by decide) (fun c_12 => ?_) (fun c_12 => ?_)
          · replace hf := if_t c_12 hf
            refine lv_iload_n hx hb dX5_loudestLeft_63 rfl (lv_at hl 3 rfl) ?_
            refine lv_istore_n (lv' := [(2, .int q5.2), (0, .ref (A 0)), (1, .int p1), (3, .int q5.2)]) hx hb dX5_loudestLeft_64 rfl hl (by decide) rfl (fun ls hl => ?_)
            obtain ⟨v_13, ev_13, hf⟩ := nq_e hf
            refine lv_iinc (v := v_13) (lv' := [(3, .int v_13), (2, .int q5.2), (0, .ref (A 0)), (1, .int p1)]) hx hb dX5_loudestLeft_65 hl (k := 3) rfl (by rw [ev_13]; rfl) (by decide) rfl (fun ls hl => ?_)
            refine lv_goto (tgt := 5) hx hb dX5_loudestLeft_68 (by decide) ?_
            exact ih5 (q5.2, v_13) hf H locs ls hP hD hS (lv_sub hl [2, 3, 1, 0] rfl)
          · replace hf := if_f c_12 hf
            refine lv_aload_n hx hb dX5_loudestLeft_50 rfl (lv_at hl 0 rfl) ?_
            refine lv_iload_n hx hb dX5_loudestLeft_51 rfl (lv_at hl 3 rfl) ?_
            obtain ⟨a_14, ha_14, hf⟩ := bd_e hf
            refine Ct.callV (As := [.int q5.2]) (rest := []) (st1 := [.int a_14]) (c_X5_worth l D cI A M q5.2 a_14 ha_14) hx hb hml hown hts (cwV 1 hts gX5_loudestLeft_X5_worth rfl rfl rfl hd_X5_worth ⟨Nat.le_of_ble_eq_true rfl, Nat.le_of_ble_eq_true rfl⟩) (va_recv hK hP (ci := 5) (q0 := 0) rfl cM_at0) (Ln.id rfl) hA hK hP hD hS rfl hl.1 rfl rfl (Nat.le_of_ble_eq_true rfl) dX5_loudestLeft_52 (fun H locs hP hD hS => ?_)
            refine lv_aload_n hx hb dX5_loudestLeft_55 rfl (lv_at hl 0 rfl) ?_
            refine lv_iload_n hx hb dX5_loudestLeft_56 rfl (lv_at hl 2 rfl) ?_
            obtain ⟨a_15, ha_15, hf⟩ := bd_e hf
            refine Ct.callV (As := [.int q5.1]) (rest := [.int a_14]) (st1 := [.int a_15, .int a_14]) (c_X5_worth l D cI A M q5.1 a_15 ha_15) hx hb hml hown hts (cwV 1 hts gX5_loudestLeft_X5_worth rfl rfl rfl hd_X5_worth ⟨Nat.le_of_ble_eq_true rfl, Nat.le_of_ble_eq_true rfl⟩) (va_recv hK hP (ci := 5) (q0 := 0) rfl cM_at0) (Ln.id rfl) hA hK hP hD hS rfl hl.1 rfl rfl (Nat.le_of_ble_eq_true rfl) dX5_loudestLeft_57 (fun H locs hP hD hS => ?_)
            refine lv_icmp_le (tgt := 65) hx hb dX5_loudestLeft_60 (by decide) (fun c_16 => ?_) (fun c_16 => ?_)
            · replace hf := if_t c_16 hf
              obtain ⟨v_17, ev_17, hf⟩ := nq_e hf
              refine lv_iinc (v := v_17) (lv' := [(3, .int v_17), (0, .ref (A 0)), (1, .int p1), (2, .int q5.1)]) hx hb dX5_loudestLeft_65 hl (k := 3) rfl (by rw [ev_17]; rfl) (by decide) rfl (fun ls hl => ?_)
              refine lv_goto (tgt := 5) hx hb dX5_loudestLeft_68 (by decide) ?_
              exact ih5 (q5.1, v_17) hf H locs ls hP hD hS (lv_sub hl [1, 2, 3, 0] rfl)
            · replace hf := if_f c_16 hf
              refine lv_iload_n hx hb dX5_loudestLeft_63 rfl (lv_at hl 3 rfl) ?_
              refine lv_istore_n (lv' := [(2, .int q5.2), (0, .ref (A 0)), (1, .int p1), (3, .int q5.2)]) hx hb dX5_loudestLeft_64 rfl hl (by decide) rfl (fun ls hl => ?_)
              obtain ⟨v_18, ev_18, hf⟩ := nq_e hf
              refine lv_iinc (v := v_18) (lv' := [(3, .int v_18), (2, .int q5.2), (0, .ref (A 0)), (1, .int p1)]) hx hb dX5_loudestLeft_65 hl (k := 3) rfl (by rw [ev_18]; rfl) (by decide) rfl (fun ls hl => ?_)
              refine lv_goto (tgt := 5) hx hb dX5_loudestLeft_68 (by decide) ?_
              exact ih5 (q5.2, v_18) hf H locs ls hP hD hS (lv_sub hl [2, 3, 1, 0] rfl)

def rm_X5_fewestOf : Room := { frames := 3, cells := 0, slots := 0, locals := 68 }
theorem hd_X5_fewestOf : yX5_fewestOf.cls = RX5 ∧ yX5_fewestOf.cls ≠ "java/lang/invoke/MethodHandle" ∧ yX5_fewestOf.cls ≠ "java/lang/invoke/VarHandle" ∧ (parseMethodDescriptor yX5_fewestOf.desc).map (fun d => d.parameters.length) = some 1 := by decide +kernel
set_option maxRecDepth 100000 in
set_option maxHeartbeats 4000000 in
theorem c_X5_fewestOf (l : Launch) (D : va_G) (cI : ClassId) (A : Nat → Nat) (M : St) (p1 : Int32) (r : Int32 × St) (hf : f_X5_fewestOf M p1 = some r) : Ct l yX5_fewestOf wsX5_fewestOf rm_X5_fewestOf D cI (cM cI A M) (cM cI A r.2) [.ref (A 0), .int p1] (some (.int r.1)) := by
  unfold f_X5_fewestOf at hf
  refine Ct.ofI (cc := cX5_fewestOf) (maxL := 5) (by decide +kernel) rfl (Nat.le_of_ble_eq_true rfl) ?_
  intro p e s m args below meth c AA Q H locs ls hx hb hml hown hts hA hK hP hD hS hl hend0
  have hend : ∀ (r1 : Int32 × St) (H : Heap) (locs : List Loc) (pc : Nat) (ls : Array Slot), some r1 = some r → va_P D vwCl (cM cI A r1.2) H → va_S AA s.heap H locs → decode cX5_fewestOf pc = .ok (.ireturn, 1) → W p l e rm_X5_fewestOf s m args below meth c H locs 0 0 Q (F0 m pc ls [.int r1.1]) := by
    intro r1 H locs pc ls e1 hP hS hd; cases e1; exact hend0 H locs pc ls hP hS hd
  clear hend0
  have hw5 : ∀ w ∈ wsX50, w ∈ wsX5_fewestOf := by decide +kernel
  have k49 := hts (.fieldLink RX5 49 "AnchorsForConfessionModel" "words" "[I") (by decide +kernel)
  replace hl : lv_has ls 5 [(0, .ref (A 0)), (1, .int p1)] := hl
  refine lv_iconst (v := 0) hx hb dX5_fewestOf_0 (by decide) ?_
  refine lv_istore_n (lv' := [(2, .int (0 : Int32)), (0, .ref (A 0)), (1, .int p1)]) hx hb dX5_fewestOf_1 rfl hl (by decide) rfl (fun ls hl => ?_)
  refine lp_ind (P := fun (q2 : Int32 × St) => ∀ (H : Heap) (locs : List Loc) (ls : Array Slot), va_P D vwCl (cM cI A q2.2) H → va_D AA (cM cI A q2.2) → va_S AA s.heap H locs → lv_has ls 5 [(0, .ref (A 0)), (1, .int p1), (2, .int q2.1)] → W p l e rm_X5_fewestOf s m args below meth c H locs 0 0 Q (F0 m 2 ls [])) hf ?_ H locs ls hP hD hS (lv_sub hl [1, 2, 0] rfl)
  clear hf hP hD hS hl
  intro nx2 ih2 q2 hf H locs ls hP hD hS hl
  refine lv_iload_n hx hb dX5_fewestOf_2 rfl (lv_at hl 2 rfl) ?_
  refine lv_bipush (v := 8) hx hb dX5_fewestOf_3 (by decide +kernel) ?_
  refine lv_icmp_ge (tgt := 21) hx hb dX5_fewestOf_5 (by decide) (fun c_1 => ?_) (fun c_1 => ?_)
  · replace hf := if_t c_1 hf
    refine lv_aload_n hx hb dX5_fewestOf_21 rfl (lv_at hl 0 rfl) ?_
    refine lv_iload_n hx hb dX5_fewestOf_22 rfl (lv_at hl 1 rfl) ?_
    obtain ⟨a_2, ha_2, hf⟩ := bd_e hf
    refine Ct.callV (As := [.int p1]) (rest := []) (st1 := [.int a_2]) (c_X5_lacks l D cI A q2.2 p1 a_2 ha_2) hx hb hml hown hts (cwV 1 hts gX5_fewestOf_X5_lacks rfl rfl rfl hd_X5_lacks ⟨Nat.le_of_ble_eq_true rfl, Nat.le_of_ble_eq_true rfl⟩) (va_recv hK hP (ci := 5) (q0 := 0) rfl cM_at0) (Ln.id rfl) hA hK hP hD hS rfl hl.1 rfl rfl (Nat.le_of_ble_eq_true rfl) dX5_fewestOf_23 (fun H locs hP hD hS => ?_)
    refine lv_istore_n (lv' := [(2, .int a_2), (0, .ref (A 0)), (1, .int p1)]) hx hb dX5_fewestOf_26 rfl hl (by decide) rfl (fun ls hl => ?_)
    refine lv_iconst (v := 0) hx hb dX5_fewestOf_27 (by decide) ?_
    refine lv_istore_n (lv' := [(3, .int (0 : Int32)), (2, .int a_2), (0, .ref (A 0)), (1, .int p1)]) hx hb dX5_fewestOf_28 rfl hl (by decide) rfl (fun ls hl => ?_)
    refine lp_ind (P := fun (q29 : Int32 × Int32 × St) => ∀ (H : Heap) (locs : List Loc) (ls : Array Slot), va_P D vwCl (cM cI A q29.2.2) H → va_D AA (cM cI A q29.2.2) → va_S AA s.heap H locs → lv_has ls 5 [(0, .ref (A 0)), (1, .int p1), (2, .int q29.1), (3, .int q29.2.1)] → W p l e rm_X5_fewestOf s m args below meth c H locs 0 0 Q (F0 m 29 ls [])) hf ?_ H locs ls hP hD hS (lv_sub hl [2, 3, 1, 0] rfl)
    clear hf hP hD hS hl
    intro nx29 ih29 q29 hf H locs ls hP hD hS hl
    refine lv_iload_n hx hb dX5_fewestOf_29 rfl (lv_at hl 2 rfl) ?_
    refine lv_if_le (tgt := 74) hx hb dX5_fewestOf_30 (by decide) (fun c_3 => ?_) (fun c_3 => ?_)
    · replace hf := if_t c_3 hf
      refine lv_iload_n hx hb dX5_fewestOf_74 rfl (lv_at hl 3 rfl) ?_
      exact hend (q29.2.1, q29.2.2) H locs _ _ hf hP hS dX5_fewestOf_75
    · replace hf := if_f c_3 hf
      refine lv_aload_n hx hb dX5_fewestOf_33 rfl (lv_at hl 0 rfl) ?_
      refine lv_iload_n hx hb dX5_fewestOf_34 rfl (lv_at hl 1 rfl) ?_
      obtain ⟨a_4, ha_4, hf⟩ := bd_e hf
      refine Ct.callV (As := [.int p1]) (rest := []) (st1 := [.int a_4]) (c_X5_loudestLeft l D cI A q29.2.2 p1 a_4 ha_4) hx hb hml hown hts (cwV 1 hts gX5_fewestOf_X5_loudestLeft rfl rfl rfl hd_X5_loudestLeft ⟨Nat.le_of_ble_eq_true rfl, Nat.le_of_ble_eq_true rfl⟩) (va_recv hK hP (ci := 5) (q0 := 0) rfl cM_at0) (Ln.id rfl) hA hK hP hD hS rfl hl.1 rfl rfl (Nat.le_of_ble_eq_true rfl) dX5_fewestOf_35 (fun H locs hP hD hS => ?_)
      refine lv_istore (lv' := [(4, .int a_4), (0, .ref (A 0)), (1, .int p1), (2, .int q29.1), (3, .int q29.2.1)]) hx hb dX5_fewestOf_38 hl (by decide) rfl (fun ls hl => ?_)
      refine lv_iload hx hb dX5_fewestOf_40 (lv_at hl 0 rfl) ?_
      refine lv_if_ge (tgt := 48) hx hb dX5_fewestOf_42 (by decide) (fun c_5 => ?_) (fun c_5 => ?_)
      · replace hf := if_t c_5 hf
        refine lv_aload_n hx hb dX5_fewestOf_48 rfl (lv_at hl 1 rfl) ?_
        refine va_get (D := D) (ci := 5) (v := .ref (A 14)) (C := RX5) (T := TX5) (N := 27) hx hb hts hw5 hown hK hP 0 cM_at0 rfl 23 (by decide) k49 (fun _ h9 => h9) rfl dX5_fewestOf_49 ?_
        refine lv_iload hx hb dX5_fewestOf_52 (lv_at hl 0 rfl) ?_
        refine lv_dup2_11 hx hb dX5_fewestOf_54 rfl rfl ?_
        obtain ⟨c_6, hf⟩ := gi_e hf
        refine va_iald hx hb hK hP 14 0 cM_at14 rfl c_6 dX5_fewestOf_55 ?_
        refine lv_iconst (v := 1) hx hb dX5_fewestOf_56 (by decide) ?_
        refine lv_iadd hx hb dX5_fewestOf_57 ?_
        obtain ⟨c_7, hf⟩ := gi_e hf
        refine va_iast hx hb hK hP hD hS 14 0 cM_at14 rfl c_7 dX5_fewestOf_58 (fun H locs hP hD hS => ?_)
        obtain ⟨h_8, eh_8, hf⟩ := nq_e hf
        rw [cM_su14, ← eh_8] at hP hD
        refine lv_iload_n hx hb dX5_fewestOf_59 rfl (lv_at hl 3 rfl) ?_
        refine lv_aload_n hx hb dX5_fewestOf_60 rfl (lv_at hl 1 rfl) ?_
        refine lv_iload hx hb dX5_fewestOf_61 (lv_at hl 0 rfl) ?_
        obtain ⟨a_9, ha_9, hf⟩ := bd_e hf
        refine Ct.callV (As := [.int a_4]) (rest := [.int q29.1]) (st1 := [.int a_9, .int q29.1]) (c_X5_worth l D cI A h_8 a_4 a_9 ha_9) hx hb hml hown hts (cwV 1 hts gX5_fewestOf_X5_worth rfl rfl rfl hd_X5_worth ⟨Nat.le_of_ble_eq_true rfl, Nat.le_of_ble_eq_true rfl⟩) (va_recv hK hP (ci := 5) (q0 := 0) rfl cM_at0) (Ln.id rfl) hA hK hP hD hS rfl hl.1 rfl rfl (Nat.le_of_ble_eq_true rfl) dX5_fewestOf_63 (fun H locs hP hD hS => ?_)
        refine lv_isub hx hb dX5_fewestOf_66 ?_
        refine lv_topi (fun v_10 ev_10 => ?_)
        replace hf := nm_at ev_10 hf
        refine lv_istore_n (lv' := [(2, .int v_10), (4, .int a_4), (0, .ref (A 0)), (1, .int p1), (3, .int q29.2.1)]) hx hb dX5_fewestOf_67 rfl hl (by decide) rfl (fun ls hl => ?_)
        obtain ⟨v_11, ev_11, hf⟩ := nq_e hf
        refine lv_iinc (v := v_11) (lv' := [(3, .int v_11), (2, .int v_10), (4, .int a_4), (0, .ref (A 0)), (1, .int p1)]) hx hb dX5_fewestOf_68 hl (k := 4) rfl (by rw [ev_11]; rfl) (by decide) rfl (fun ls hl => ?_)
        refine lv_goto (tgt := 29) hx hb dX5_fewestOf_71 (by decide) ?_
        exact ih29 (v_10, v_11, h_8) hf H locs ls hP hD hS (lv_sub hl [3, 4, 1, 0] rfl)
      · replace hf := if_f c_5 hf
        refine lv_bipush (v := -9) hx hb dX5_fewestOf_45 (by decide +kernel) ?_
        exact hend ((-9 : Int32), q29.2.2) H locs _ _ hf hP hS dX5_fewestOf_47
  · replace hf := if_f c_1 hf
    refine lv_aload_n hx hb dX5_fewestOf_8 rfl (lv_at hl 0 rfl) ?_
    refine va_get (D := D) (ci := 5) (v := .ref (A 14)) (C := RX5) (T := TX5) (N := 27) hx hb hts hw5 hown hK hP 0 cM_at0 rfl 23 (by decide) k49 (fun _ h9 => h9) rfl dX5_fewestOf_9 ?_
    refine lv_iload_n hx hb dX5_fewestOf_12 rfl (lv_at hl 2 rfl) ?_
    refine lv_iconst (v := 0) hx hb dX5_fewestOf_13 (by decide) ?_
    obtain ⟨c_12, hf⟩ := gi_e hf
    refine va_iast hx hb hK hP hD hS 14 0 cM_at14 rfl c_12 dX5_fewestOf_14 (fun H locs hP hD hS => ?_)
    obtain ⟨h_13, eh_13, hf⟩ := nq_e hf
    rw [cM_su14, ← eh_13] at hP hD
    obtain ⟨v_14, ev_14, hf⟩ := nq_e hf
    refine lv_iinc (v := v_14) (lv' := [(2, .int v_14), (0, .ref (A 0)), (1, .int p1)]) hx hb dX5_fewestOf_15 hl (k := 2) rfl (by rw [ev_14]; rfl) (by decide) rfl (fun ls hl => ?_)
    refine lv_goto (tgt := 2) hx hb dX5_fewestOf_18 (by decide) ?_
    exact ih2 (v_14, h_13) hf H locs ls hP hD hS (lv_sub hl [1, 2, 0] rfl)

def rm_X5_tellsMost : Room := { frames := 0, cells := 0, slots := 0, locals := 0 }
theorem hd_X5_tellsMost : yX5_tellsMost.cls = RX5 ∧ yX5_tellsMost.cls ≠ "java/lang/invoke/MethodHandle" ∧ yX5_tellsMost.cls ≠ "java/lang/invoke/VarHandle" ∧ (parseMethodDescriptor yX5_tellsMost.desc).map (fun d => d.parameters.length) = some 0 := by decide +kernel
set_option maxRecDepth 100000 in
set_option maxHeartbeats 4000000 in
theorem c_X5_tellsMost (l : Launch) (D : va_G) (cI : ClassId) (A : Nat → Nat) (M : St) (r : Int32) (hf : f_X5_tellsMost M = some r) : Ct l yX5_tellsMost wsX5_tellsMost rm_X5_tellsMost D cI (cM cI A M) (cM cI A M) [.ref (A 0)] (some (.int r)) := by
  unfold f_X5_tellsMost at hf
  refine Ct.ofI (cc := cX5_tellsMost) (maxL := 3) (by decide +kernel) rfl (Nat.le_of_ble_eq_true rfl) ?_
  intro p e s m args below meth c AA Q H locs ls hx hb hml hown hts hA hK hP hD hS hl hend0
  have hend : ∀ (r1 : Int32) (H : Heap) (locs : List Loc) (pc : Nat) (ls : Array Slot), some r1 = some r → va_P D vwCl (cM cI A M) H → va_S AA s.heap H locs → decode cX5_tellsMost pc = .ok (.ireturn, 1) → W p l e rm_X5_tellsMost s m args below meth c H locs 0 0 Q (F0 m pc ls [.int r1]) := by
    intro r1 H locs pc ls e1 hP hS hd; cases e1; exact hend0 H locs pc ls hP hS hd
  clear hend0
  have hw5 : ∀ w ∈ wsX50, w ∈ wsX5_tellsMost := by decide +kernel
  have k49 := hts (.fieldLink RX5 49 "AnchorsForConfessionModel" "words" "[I") (by decide +kernel)
  have k65 := hts (.fieldLink RX5 65 "AnchorsForConfessionModel" "men" "I") (by decide +kernel)
  replace hl : lv_has ls 3 [(0, .ref (A 0))] := hl
  refine lv_bipush (v := -9) hx hb dX5_tellsMost_0 (by decide +kernel) ?_
  refine lv_istore_n (lv' := [(1, .int (-9 : Int32)), (0, .ref (A 0))]) hx hb dX5_tellsMost_2 rfl hl (by decide) rfl (fun ls hl => ?_)
  refine lv_iconst (v := 0) hx hb dX5_tellsMost_3 (by decide) ?_
  refine lv_istore_n (lv' := [(2, .int (0 : Int32)), (1, .int (-9 : Int32)), (0, .ref (A 0))]) hx hb dX5_tellsMost_4 rfl hl (by decide) rfl (fun ls hl => ?_)
  refine lp_ind (P := fun (q5 : Int32 × Int32) => ∀ (H : Heap) (locs : List Loc) (ls : Array Slot), va_P D vwCl (cM cI A M) H → va_D AA (cM cI A M) → va_S AA s.heap H locs → lv_has ls 3 [(0, .ref (A 0)), (1, .int q5.1), (2, .int q5.2)] → W p l e rm_X5_tellsMost s m args below meth c H locs 0 0 Q (F0 m 5 ls [])) hf ?_ H locs ls hP hD hS (lv_sub hl [2, 1, 0] rfl)
  clear hf hP hD hS hl
  intro nx5 ih5 q5 hf H locs ls hP hD hS hl
  refine lv_iload_n hx hb dX5_tellsMost_5 rfl (lv_at hl 2 rfl) ?_
  refine lv_aload_n hx hb dX5_tellsMost_6 rfl (lv_at hl 0 rfl) ?_
  refine va_get (D := D) (ci := 5) (v := .int (M 16 1)) (C := RX5) (T := TX5) (N := 27) hx hb hts hw5 hown hK hP 0 cM_at0 rfl 9 (by decide) k65 (fun _ h9 => h9) rfl dX5_tellsMost_7 ?_
  refine lv_icmp_ge (tgt := 53) hx hb dX5_tellsMost_10 (by decide) (fun c_1 => ?_) (fun c_1 => ?_)
  · replace hf := if_t c_1 hf
    refine lv_iload_n hx hb dX5_tellsMost_53 rfl (lv_at hl 1 rfl) ?_
    exact hend q5.1 H locs _ _ hf hP hS dX5_tellsMost_54
  · replace hf := if_f c_1 hf
    refine lv_aload_n hx hb dX5_tellsMost_13 rfl (lv_at hl 0 rfl) ?_
    refine va_get (D := D) (ci := 5) (v := .ref (A 14)) (C := RX5) (T := TX5) (N := 27) hx hb hts hw5 hown hK hP 0 cM_at0 rfl 23 (by decide) k49 (fun _ h9 => h9) rfl dX5_tellsMost_14 ?_
    refine lv_iload_n hx hb dX5_tellsMost_17 rfl (lv_at hl 2 rfl) ?_
    obtain ⟨c_2, hf⟩ := gi_e hf
    refine va_iald hx hb hK hP 14 0 cM_at14 rfl c_2 dX5_tellsMost_18 ?_
    refine lv_if_le (tgt := 45) hx hb dX5_tellsMost_19 (by decide) (fun c_3 => ?_) (fun c_3 => ?_)
    · replace hf := if_t c_3 hf
      refine lv_iload_n hx hb dX5_tellsMost_45 rfl (lv_at hl 1 rfl) ?_
      refine lv_istore_n (lv' := [(1, .int q5.1), (0, .ref (A 0)), (2, .int q5.2)]) hx hb dX5_tellsMost_46 rfl hl (by decide) rfl (fun ls hl => ?_)
      obtain ⟨v_4, ev_4, hf⟩ := nq_e hf
      refine lv_iinc (v := v_4) (lv' := [(2, .int v_4), (1, .int q5.1), (0, .ref (A 0))]) hx hb dX5_tellsMost_47 hl (k := 2) rfl (by rw [ev_4]; rfl) (by decide) rfl (fun ls hl => ?_)
      refine lv_goto (tgt := 5) hx hb dX5_tellsMost_50 (by decide) ?_
      exact ih5 (q5.1, v_4) hf H locs ls hP hD hS (lv_sub hl [2, 1, 0] rfl)
    · replace hf := if_f c_3 hf
      refine lv_iload_n hx hb dX5_tellsMost_22 rfl (lv_at hl 1 rfl) ?_
      refine lv_if_lt (tgt := 41) hx hb dX5_tellsMost_23 (by decide) (fun c_5 => ?_) (fun c_5 => ?_)
      · replace hf := if_t c_5 hf
        refine lv_iload_n hx hb dX5_tellsMost_41 rfl (lv_at hl 2 rfl) ?_
        refine lv_goto (tgt := 46) hx hb dX5_tellsMost_42 (by decide) ?_
        refine lv_istore_n (lv' := [(1, .int q5.2), (0, .ref (A 0)), (2, .int q5.2)]) hx hb dX5_tellsMost_46 rfl hl (by decide) rfl (fun ls hl => ?_)
        obtain ⟨v_6, ev_6, hf⟩ := nq_e hf
        refine lv_iinc (v := v_6) (lv' := [(2, .int v_6), (1, .int q5.2), (0, .ref (A 0))]) hx hb dX5_tellsMost_47 hl (k := 2) rfl (by rw [ev_6]; rfl) (by decide) rfl (fun ls hl => ?_)
        refine lv_goto (tgt := 5) hx hb dX5_tellsMost_50 (by decide) ?_
        exact ih5 (q5.2, v_6) hf H locs ls hP hD hS (lv_sub hl [2, 1, 0] rfl)
      · replace hf := if_f c_5 hf
        refine lv_aload_n hx hb dX5_tellsMost_26 rfl (lv_at hl 0 rfl) ?_
        refine va_get (D := D) (ci := 5) (v := .ref (A 14)) (C := RX5) (T := TX5) (N := 27) hx hb hts hw5 hown hK hP 0 cM_at0 rfl 23 (by decide) k49 (fun _ h9 => h9) rfl dX5_tellsMost_27 ?_
        refine lv_iload_n hx hb dX5_tellsMost_30 rfl (lv_at hl 2 rfl) ?_
        obtain ⟨c_7, hf⟩ := gi_e hf
        refine va_iald hx hb hK hP 14 0 cM_at14 rfl c_7 dX5_tellsMost_31 ?_
        refine lv_aload_n hx hb dX5_tellsMost_32 rfl (lv_at hl 0 rfl) ?_
        refine va_get (D := D) (ci := 5) (v := .ref (A 14)) (C := RX5) (T := TX5) (N := 27) hx hb hts hw5 hown hK hP 0 cM_at0 rfl 23 (by decide) k49 (fun _ h9 => h9) rfl dX5_tellsMost_33 ?_
        refine lv_iload_n hx hb dX5_tellsMost_36 rfl (lv_at hl 1 rfl) ?_
        obtain ⟨c_8, hf⟩ := gi_e hf
        refine va_iald hx hb hK hP 14 0 cM_at14 rfl c_8 dX5_tellsMost_37 ?_
        refine lv_icmp_le (tgt := 45) hx hb dX5_tellsMost_38 (by decide) (fun c_9 => ?_) (fun c_9 => ?_)
        · replace hf := if_t c_9 hf
          refine lv_iload_n hx hb dX5_tellsMost_45 rfl (lv_at hl 1 rfl) ?_
          refine lv_istore_n (lv' := [(1, .int q5.1), (0, .ref (A 0)), (2, .int q5.2)]) hx hb dX5_tellsMost_46 rfl hl (by decide) rfl (fun ls hl => ?_)
          obtain ⟨v_10, ev_10, hf⟩ := nq_e hf
          refine lv_iinc (v := v_10) (lv' := [(2, .int v_10), (1, .int q5.1), (0, .ref (A 0))]) hx hb dX5_tellsMost_47 hl (k := 2) rfl (by rw [ev_10]; rfl) (by decide) rfl (fun ls hl => ?_)
          refine lv_goto (tgt := 5) hx hb dX5_tellsMost_50 (by decide) ?_
          exact ih5 (q5.1, v_10) hf H locs ls hP hD hS (lv_sub hl [2, 1, 0] rfl)
        · replace hf := if_f c_9 hf
          refine lv_iload_n hx hb dX5_tellsMost_41 rfl (lv_at hl 2 rfl) ?_
          refine lv_goto (tgt := 46) hx hb dX5_tellsMost_42 (by decide) ?_
          refine lv_istore_n (lv' := [(1, .int q5.2), (0, .ref (A 0)), (2, .int q5.2)]) hx hb dX5_tellsMost_46 rfl hl (by decide) rfl (fun ls hl => ?_)
          obtain ⟨v_11, ev_11, hf⟩ := nq_e hf
          refine lv_iinc (v := v_11) (lv' := [(2, .int v_11), (1, .int q5.2), (0, .ref (A 0))]) hx hb dX5_tellsMost_47 hl (k := 2) rfl (by rw [ev_11]; rfl) (by decide) rfl (fun ls hl => ?_)
          refine lv_goto (tgt := 5) hx hb dX5_tellsMost_50 (by decide) ?_
          exact ih5 (q5.2, v_11) hf H locs ls hP hD hS (lv_sub hl [2, 1, 0] rfl)

def rm_X5_fewest : Room := { frames := 4, cells := 0, slots := 0, locals := 92 }
theorem hd_X5_fewest : yX5_fewest.cls = RX5 ∧ yX5_fewest.cls ≠ "java/lang/invoke/MethodHandle" ∧ yX5_fewest.cls ≠ "java/lang/invoke/VarHandle" ∧ (parseMethodDescriptor yX5_fewest.desc).map (fun d => d.parameters.length) = some 2 := by decide +kernel
set_option maxRecDepth 100000 in
set_option maxHeartbeats 4000000 in
theorem c_X5_fewest (l : Launch) (D : va_G) (cI : ClassId) (A : Nat → Nat) (M : St) (p1 : Int32) (p2 : Int32) (r : Int32 × St) (hf : f_X5_fewest M p1 p2 = some r) : Ct l yX5_fewest wsX5_fewest rm_X5_fewest D cI (cM cI A M) (cM cI A r.2) [.ref (A 0), .int p1, .int p2] (some (.int r.1)) := by
  unfold f_X5_fewest at hf
  refine Ct.ofI (cc := cX5_fewest) (maxL := 5) (by decide +kernel) rfl (Nat.le_of_ble_eq_true rfl) ?_
  intro p e s m args below meth c AA Q H locs ls hx hb hml hown hts hA hK hP hD hS hl hend0
  have hend : ∀ (r1 : Int32 × St) (H : Heap) (locs : List Loc) (pc : Nat) (ls : Array Slot), some r1 = some r → va_P D vwCl (cM cI A r1.2) H → va_S AA s.heap H locs → decode cX5_fewest pc = .ok (.ireturn, 1) → W p l e rm_X5_fewest s m args below meth c H locs 0 0 Q (F0 m pc ls [.int r1.1]) := by
    intro r1 H locs pc ls e1 hP hS hd; cases e1; exact hend0 H locs pc ls hP hS hd
  clear hend0
  have hw5 : ∀ w ∈ wsX50, w ∈ wsX5_fewest := by decide +kernel
  have k19 := hts (.fieldLink RX5 19 "AnchorsForConfessionModel" "out" "[I") (by decide +kernel)
  replace hl : lv_has ls 5 [(0, .ref (A 0)), (1, .int p1), (2, .int p2)] := hl
  refine lv_aload_n hx hb dX5_fewest_0 rfl (lv_at hl 0 rfl) ?_
  refine lv_iload_n hx hb dX5_fewest_1 rfl (lv_at hl 1 rfl) ?_
  obtain ⟨a_1, ha_1, hf⟩ := bd_e hf
  refine Ct.callV (As := [.int p1]) (rest := []) (st1 := [.int a_1]) (c_X5_isShip l D cI A M p1 a_1 ha_1) hx hb hml hown hts (cwV 1 hts gX5_fewest_X5_isShip rfl rfl rfl hd_X5_isShip ⟨Nat.le_of_ble_eq_true rfl, Nat.le_of_ble_eq_true rfl⟩) (va_recv hK hP (ci := 5) (q0 := 0) rfl cM_at0) (Ln.id rfl) hA hK hP hD hS rfl hl.1 rfl rfl (Nat.le_of_ble_eq_true rfl) dX5_fewest_2 (fun H locs hP hD hS => ?_)
  refine lv_if_ne (tgt := 12) hx hb dX5_fewest_5 (by decide) (fun c_2 => ?_) (fun c_2 => ?_)
  · replace hf := if_f c_2 hf
    refine lv_iload_n hx hb dX5_fewest_12 rfl (lv_at hl 2 rfl) ?_
    refine lv_iconst (v := 0) hx hb dX5_fewest_13 (by decide) ?_
    refine lv_iconst (v := 1) hx hb dX5_fewest_14 (by decide) ?_
    obtain ⟨a_3, ha_3, hf⟩ := bd_e hf
    refine Ct.callS (As := [.int p2, .int (0 : Int32), .int (1 : Int32)]) (rest := []) (st1 := [.int a_3]) (c_X5_isIn l D cI  p2 (0 : Int32) (1 : Int32) a_3 ha_3) hx hb hml hown hts (va_cwS 3 hts gX5_fewest_X5_isIn rfl rfl rfl hd_X5_isIn ⟨Nat.le_of_ble_eq_true rfl, Nat.le_of_ble_eq_true rfl⟩) Ln.nil hA hK hP hD hS rfl hl.1 rfl rfl (Nat.le_of_ble_eq_true rfl) dX5_fewest_15 (fun H locs hP hD hS => ?_)
    refine lv_if_ne (tgt := 26) hx hb dX5_fewest_18 (by decide) (fun c_4 => ?_) (fun c_4 => ?_)
    · replace hf := if_f c_4 hf
      refine lv_aload_n hx hb dX5_fewest_26 rfl (lv_at hl 0 rfl) ?_
      refine va_get (D := D) (ci := 5) (v := .ref (A 4)) (C := RX5) (T := TX5) (N := 27) hx hb hts hw5 hown hK hP 0 cM_at0 rfl 3 (by decide) k19 (fun _ h9 => h9) rfl dX5_fewest_27 ?_
      refine lv_iload_n hx hb dX5_fewest_30 rfl (lv_at hl 1 rfl) ?_
      obtain ⟨c_5, hf⟩ := gi_e hf
      refine va_iald hx hb hK hP 4 0 cM_at4 rfl c_5 dX5_fewest_31 ?_
      refine lv_if_le (tgt := 40) hx hb dX5_fewest_32 (by decide) (fun c_6 => ?_) (fun c_6 => ?_)
      · replace hf := if_t c_6 hf
        refine lv_iconst (v := 0) hx hb dX5_fewest_40 (by decide) ?_
        refine lv_istore_n (lv' := [(3, .int (0 : Int32)), (0, .ref (A 0)), (1, .int p1), (2, .int p2)]) hx hb dX5_fewest_41 rfl hl (by decide) rfl (fun ls hl => ?_)
        refine lv_iload_n hx hb dX5_fewest_42 rfl (lv_at hl 0 rfl) ?_
        refine lv_if_eq (tgt := 52) hx hb dX5_fewest_43 (by decide) (fun _ => ?_) (fun c0 => absurd c0 (by decide))
        refine lv_aload_n hx hb dX5_fewest_52 rfl (lv_at hl 1 rfl) ?_
        refine lv_iload_n hx hb dX5_fewest_53 rfl (lv_at hl 2 rfl) ?_
        obtain ⟨a_7, ha_7, hf⟩ := bd_e hf
        refine Ct.callV (As := [.int p1]) (rest := []) (st1 := [.int a_7.1]) (c_X5_fewestOf l D cI A M p1 a_7 ha_7) hx hb hml hown hts (cwV 1 hts gX5_fewest_X5_fewestOf rfl rfl rfl hd_X5_fewestOf ⟨Nat.le_of_ble_eq_true rfl, Nat.le_of_ble_eq_true rfl⟩) (va_recv hK hP (ci := 5) (q0 := 0) rfl cM_at0) (Ln.id rfl) hA hK hP hD hS rfl hl.1 rfl rfl (Nat.le_of_ble_eq_true rfl) dX5_fewest_54 (fun H locs hP hD hS => ?_)
        replace hP : va_P D vwCl (cM cI A a_7.2) H := hP
        replace hD : va_D AA (cM cI A a_7.2) := hD
        refine lv_istore (lv' := [(4, .int a_7.1), (3, .int (0 : Int32)), (0, .ref (A 0)), (1, .int p1), (2, .int p2)]) hx hb dX5_fewest_57 hl (by decide) rfl (fun ls hl => ?_)
        refine lv_iload_n hx hb dX5_fewest_59 rfl (lv_at hl 4 rfl) ?_
        refine lv_if_eq (tgt := 68) hx hb dX5_fewest_60 (by decide) (fun c_8 => ?_) (fun c_8 => ?_)
        · replace hf := if_t c_8 hf
          refine lv_iload_n hx hb dX5_fewest_68 rfl (lv_at hl 4 rfl) ?_
          refine lv_if_ne (tgt := 77) hx hb dX5_fewest_69 (by decide) (fun c_9 => ?_) (fun c_9 => ?_)
          · replace hf := if_f c_9 hf
            refine lv_bipush (v := -9) hx hb dX5_fewest_77 (by decide +kernel) ?_
            refine lv_goto (tgt := 86) hx hb dX5_fewest_79 (by decide) ?_
            exact hend ((-9 : Int32), a_7.2) H locs _ _ hf hP hS dX5_fewest_86
          · replace hf := if_t c_9 hf
            refine lv_iload hx hb dX5_fewest_72 (lv_at hl 0 rfl) ?_
            refine lv_goto (tgt := 86) hx hb dX5_fewest_74 (by decide) ?_
            exact hend (a_7.1, a_7.2) H locs _ _ hf hP hS dX5_fewest_86
        · replace hf := if_f c_8 hf
          refine lv_iload hx hb dX5_fewest_63 (lv_at hl 0 rfl) ?_
          refine lv_if_gt (tgt := 82) hx hb dX5_fewest_65 (by decide) (fun c_10 => ?_) (fun c_10 => ?_)
          · replace hf := if_t c_10 hf
            refine lv_aload_n hx hb dX5_fewest_82 rfl (lv_at hl 2 rfl) ?_
            obtain ⟨a_11, ha_11, hf⟩ := bd_e hf
            refine Ct.callV (As := []) (rest := []) (st1 := [.int a_11]) (c_X5_tellsMost l D cI A a_7.2 a_11 ha_11) hx hb hml hown hts (cwV 0 hts gX5_fewest_X5_tellsMost rfl rfl rfl hd_X5_tellsMost ⟨Nat.le_of_ble_eq_true rfl, Nat.le_of_ble_eq_true rfl⟩) (va_recv hK hP (ci := 5) (q0 := 0) rfl cM_at0) (Ln.id rfl) hA hK hP hD hS rfl hl.1 rfl rfl (Nat.le_of_ble_eq_true rfl) dX5_fewest_83 (fun H locs hP hD hS => ?_)
            exact hend (a_11, a_7.2) H locs _ _ hf hP hS dX5_fewest_86
          · replace hf := if_f c_10 hf
            refine lv_iload_n hx hb dX5_fewest_68 rfl (lv_at hl 4 rfl) ?_
            refine lv_if_ne (tgt := 77) hx hb dX5_fewest_69 (by decide) (fun c_12 => ?_) (fun c_12 => ?_)
            · replace hf := if_f c_12 hf
              refine lv_bipush (v := -9) hx hb dX5_fewest_77 (by decide +kernel) ?_
              refine lv_goto (tgt := 86) hx hb dX5_fewest_79 (by decide) ?_
              exact hend ((-9 : Int32), a_7.2) H locs _ _ hf hP hS dX5_fewest_86
            · replace hf := if_t c_12 hf
              refine lv_iload hx hb dX5_fewest_72 (lv_at hl 0 rfl) ?_
              refine lv_goto (tgt := 86) hx hb dX5_fewest_74 (by decide) ?_
              exact hend (a_7.1, a_7.2) H locs _ _ hf hP hS dX5_fewest_86
      · replace hf := if_f c_6 hf
        refine lv_bipush (v := -3) hx hb dX5_fewest_35 (by decide +kernel) ?_
        refine lv_goto (tgt := 41) hx hb dX5_fewest_37 (by decide) ?_
        refine lv_istore_n (lv' := [(3, .int (-3 : Int32)), (0, .ref (A 0)), (1, .int p1), (2, .int p2)]) hx hb dX5_fewest_41 rfl hl (by decide) rfl (fun ls hl => ?_)
        refine lv_iload_n hx hb dX5_fewest_42 rfl (lv_at hl 0 rfl) ?_
        refine lv_if_eq (tgt := 52) hx hb dX5_fewest_43 (by decide) (fun c0 => absurd c0 (by decide)) (fun _ => ?_)
        refine lv_aload_n hx hb dX5_fewest_46 rfl (lv_at hl 1 rfl) ?_
        refine lv_iload_n hx hb dX5_fewest_47 rfl (lv_at hl 0 rfl) ?_
        obtain ⟨a_13, ha_13, hf⟩ := bd_e hf
        refine Ct.callV (As := [.int (-3 : Int32)]) (rest := []) (st1 := [.int a_13.1]) (c_X5_no l D cI A M (-3 : Int32) a_13 ha_13) hx hb hml hown hts (cwV 1 hts gX5_fewest_X5_no rfl rfl rfl hd_X5_no ⟨Nat.le_of_ble_eq_true rfl, Nat.le_of_ble_eq_true rfl⟩) (va_recv hK hP (ci := 5) (q0 := 0) rfl cM_at0) (Ln.id rfl) hA hK hP hD hS rfl hl.1 rfl rfl (Nat.le_of_ble_eq_true rfl) dX5_fewest_48 (fun H locs hP hD hS => ?_)
        replace hP : va_P D vwCl (cM cI A a_13.2) H := hP
        replace hD : va_D AA (cM cI A a_13.2) := hD
        exact hend (a_13.1, a_13.2) H locs _ _ hf hP hS dX5_fewest_51
    · replace hf := if_t c_4 hf
      refine lv_bipush (v := -2) hx hb dX5_fewest_21 (by decide +kernel) ?_
      refine lv_goto (tgt := 41) hx hb dX5_fewest_23 (by decide) ?_
      refine lv_istore_n (lv' := [(3, .int (-2 : Int32)), (0, .ref (A 0)), (1, .int p1), (2, .int p2)]) hx hb dX5_fewest_41 rfl hl (by decide) rfl (fun ls hl => ?_)
      refine lv_iload_n hx hb dX5_fewest_42 rfl (lv_at hl 0 rfl) ?_
      refine lv_if_eq (tgt := 52) hx hb dX5_fewest_43 (by decide) (fun c0 => absurd c0 (by decide)) (fun _ => ?_)
      refine lv_aload_n hx hb dX5_fewest_46 rfl (lv_at hl 1 rfl) ?_
      refine lv_iload_n hx hb dX5_fewest_47 rfl (lv_at hl 0 rfl) ?_
      obtain ⟨a_14, ha_14, hf⟩ := bd_e hf
      refine Ct.callV (As := [.int (-2 : Int32)]) (rest := []) (st1 := [.int a_14.1]) (c_X5_no l D cI A M (-2 : Int32) a_14 ha_14) hx hb hml hown hts (cwV 1 hts gX5_fewest_X5_no rfl rfl rfl hd_X5_no ⟨Nat.le_of_ble_eq_true rfl, Nat.le_of_ble_eq_true rfl⟩) (va_recv hK hP (ci := 5) (q0 := 0) rfl cM_at0) (Ln.id rfl) hA hK hP hD hS rfl hl.1 rfl rfl (Nat.le_of_ble_eq_true rfl) dX5_fewest_48 (fun H locs hP hD hS => ?_)
      replace hP : va_P D vwCl (cM cI A a_14.2) H := hP
      replace hD : va_D AA (cM cI A a_14.2) := hD
      exact hend (a_14.1, a_14.2) H locs _ _ hf hP hS dX5_fewest_51
  · replace hf := if_t c_2 hf
    refine lv_iconst (v := -1) hx hb dX5_fewest_8 (by decide) ?_
    refine lv_goto (tgt := 41) hx hb dX5_fewest_9 (by decide) ?_
    refine lv_istore_n (lv' := [(3, .int (-1 : Int32)), (0, .ref (A 0)), (1, .int p1), (2, .int p2)]) hx hb dX5_fewest_41 rfl hl (by decide) rfl (fun ls hl => ?_)
    refine lv_iload_n hx hb dX5_fewest_42 rfl (lv_at hl 0 rfl) ?_
    refine lv_if_eq (tgt := 52) hx hb dX5_fewest_43 (by decide) (fun c0 => absurd c0 (by decide)) (fun _ => ?_)
    refine lv_aload_n hx hb dX5_fewest_46 rfl (lv_at hl 1 rfl) ?_
    refine lv_iload_n hx hb dX5_fewest_47 rfl (lv_at hl 0 rfl) ?_
    obtain ⟨a_15, ha_15, hf⟩ := bd_e hf
    refine Ct.callV (As := [.int (-1 : Int32)]) (rest := []) (st1 := [.int a_15.1]) (c_X5_no l D cI A M (-1 : Int32) a_15 ha_15) hx hb hml hown hts (cwV 1 hts gX5_fewest_X5_no rfl rfl rfl hd_X5_no ⟨Nat.le_of_ble_eq_true rfl, Nat.le_of_ble_eq_true rfl⟩) (va_recv hK hP (ci := 5) (q0 := 0) rfl cM_at0) (Ln.id rfl) hA hK hP hD hS rfl hl.1 rfl rfl (Nat.le_of_ble_eq_true rfl) dX5_fewest_48 (fun H locs hP hD hS => ?_)
    replace hP : va_P D vwCl (cM cI A a_15.2) H := hP
    replace hD : va_D AA (cM cI A a_15.2) := hD
    exact hend (a_15.1, a_15.2) H locs _ _ hf hP hS dX5_fewest_51

def rm_X5_when : Room := { frames := 4, cells := 0, slots := 0, locals := 92 }
theorem hd_X5_when : yX5_when.cls = RX5 ∧ yX5_when.cls ≠ "java/lang/invoke/MethodHandle" ∧ yX5_when.cls ≠ "java/lang/invoke/VarHandle" ∧ (parseMethodDescriptor yX5_when.desc).map (fun d => d.parameters.length) = some 2 := by decide +kernel
set_option maxRecDepth 100000 in
set_option maxHeartbeats 4000000 in
theorem c_X5_when (l : Launch) (D : va_G) (cI : ClassId) (A : Nat → Nat) (M : St) (p1 : Int32) (p2 : Int32) (r : Int32 × St) (hf : f_X5_when M p1 p2 = some r) : Ct l yX5_when wsX5_when rm_X5_when D cI (cM cI A M) (cM cI A r.2) [.ref (A 0), .int p1, .int p2] (some (.int r.1)) := by
  unfold f_X5_when at hf
  refine Ct.ofI (cc := cX5_when) (maxL := 6) (by decide +kernel) rfl (Nat.le_of_ble_eq_true rfl) ?_
  intro p e s m args below meth c AA Q H locs ls hx hb hml hown hts hA hK hP hD hS hl hend0
  have hend : ∀ (r1 : Int32 × St) (H : Heap) (locs : List Loc) (pc : Nat) (ls : Array Slot), some r1 = some r → va_P D vwCl (cM cI A r1.2) H → va_S AA s.heap H locs → decode cX5_when pc = .ok (.ireturn, 1) → W p l e rm_X5_when s m args below meth c H locs 0 0 Q (F0 m pc ls [.int r1.1]) := by
    intro r1 H locs pc ls e1 hP hS hd; cases e1; exact hend0 H locs pc ls hP hS hd
  clear hend0
  have hw5 : ∀ w ∈ wsX50, w ∈ wsX5_when := by decide +kernel
  have k19 := hts (.fieldLink RX5 19 "AnchorsForConfessionModel" "out" "[I") (by decide +kernel)
  replace hl : lv_has ls 6 [(0, .ref (A 0)), (1, .int p1), (2, .int p2)] := hl
  refine lv_aload_n hx hb dX5_when_0 rfl (lv_at hl 0 rfl) ?_
  refine lv_iload_n hx hb dX5_when_1 rfl (lv_at hl 1 rfl) ?_
  obtain ⟨a_1, ha_1, hf⟩ := bd_e hf
  refine Ct.callV (As := [.int p1]) (rest := []) (st1 := [.int a_1]) (c_X5_isShip l D cI A M p1 a_1 ha_1) hx hb hml hown hts (cwV 1 hts gX5_when_X5_isShip rfl rfl rfl hd_X5_isShip ⟨Nat.le_of_ble_eq_true rfl, Nat.le_of_ble_eq_true rfl⟩) (va_recv hK hP (ci := 5) (q0 := 0) rfl cM_at0) (Ln.id rfl) hA hK hP hD hS rfl hl.1 rfl rfl (Nat.le_of_ble_eq_true rfl) dX5_when_2 (fun H locs hP hD hS => ?_)
  refine lv_if_ne (tgt := 12) hx hb dX5_when_5 (by decide) (fun c_2 => ?_) (fun c_2 => ?_)
  · replace hf := if_f c_2 hf
    refine lv_iload_n hx hb dX5_when_12 rfl (lv_at hl 2 rfl) ?_
    refine lv_iconst (v := 0) hx hb dX5_when_13 (by decide) ?_
    refine lv_bipush (v := 20) hx hb dX5_when_14 (by decide +kernel) ?_
    obtain ⟨a_3, ha_3, hf⟩ := bd_e hf
    refine Ct.callS (As := [.int p2, .int (0 : Int32), .int (20 : Int32)]) (rest := []) (st1 := [.int a_3]) (c_X5_bound l D cI  p2 (0 : Int32) (20 : Int32) a_3 ha_3) hx hb hml hown hts (va_cwS 3 hts gX5_when_X5_bound rfl rfl rfl hd_X5_bound ⟨Nat.le_of_ble_eq_true rfl, Nat.le_of_ble_eq_true rfl⟩) Ln.nil hA hK hP hD hS rfl hl.1 rfl rfl (Nat.le_of_ble_eq_true rfl) dX5_when_16 (fun H locs hP hD hS => ?_)
    refine lv_istore_n (lv' := [(3, .int a_3), (0, .ref (A 0)), (1, .int p1), (2, .int p2)]) hx hb dX5_when_19 rfl hl (by decide) rfl (fun ls hl => ?_)
    refine lv_iload_n hx hb dX5_when_20 rfl (lv_at hl 0 rfl) ?_
    refine lv_if_eq (tgt := 30) hx hb dX5_when_21 (by decide) (fun c_4 => ?_) (fun c_4 => ?_)
    · replace hf := if_t c_4 hf
      refine lv_aload_n hx hb dX5_when_30 rfl (lv_at hl 1 rfl) ?_
      obtain ⟨a_5, ha_5, hf⟩ := bd_e hf
      refine Ct.callV (As := []) (rest := []) (st1 := []) (c_X5_thinks l D cI A M a_5 ha_5) hx hb hml hown hts (cwV 0 hts gX5_when_X5_thinks rfl rfl rfl hd_X5_thinks ⟨Nat.le_of_ble_eq_true rfl, Nat.le_of_ble_eq_true rfl⟩) (va_recv hK hP (ci := 5) (q0 := 0) rfl cM_at0) (Ln.id rfl) hA hK hP hD hS rfl hl.1 rfl rfl (Nat.le_of_ble_eq_true rfl) dX5_when_31 (fun H locs hP hD hS => ?_)
      replace hP : va_P D vwCl (cM cI A a_5) H := hP
      replace hD : va_D AA (cM cI A a_5) := hD
      refine lv_bipush (v := -9) hx hb dX5_when_34 (by decide +kernel) ?_
      refine lv_istore (lv' := [(4, .int (-9 : Int32)), (3, .int a_3), (0, .ref (A 0)), (1, .int p1), (2, .int p2)]) hx hb dX5_when_36 hl (by decide) rfl (fun ls hl => ?_)
      refine lv_iconst (v := 0) hx hb dX5_when_38 (by decide) ?_
      refine lv_istore (lv' := [(5, .int (0 : Int32)), (4, .int (-9 : Int32)), (3, .int a_3), (0, .ref (A 0)), (1, .int p1), (2, .int p2)]) hx hb dX5_when_39 hl (by decide) rfl (fun ls hl => ?_)
      refine lp_ind (P := fun (q41 : Int32 × Int32 × St) => ∀ (H : Heap) (locs : List Loc) (ls : Array Slot), va_P D vwCl (cM cI A q41.2.2) H → va_D AA (cM cI A q41.2.2) → va_S AA s.heap H locs → lv_has ls 6 [(0, .ref (A 0)), (1, .int p1), (2, .int p2), (4, .int q41.1), (5, .int q41.2.1)] → W p l e rm_X5_when s m args below meth c H locs 0 0 Q (F0 m 41 ls [])) hf ?_ H locs ls hP hD hS (lv_sub hl [3, 4, 5, 1, 0] rfl)
      clear hf hP hD hS hl
      intro nx41 ih41 q41 hf H locs ls hP hD hS hl
      refine lv_iload hx hb dX5_when_41 (lv_at hl 4 rfl) ?_
      refine lv_bipush (v := 60) hx hb dX5_when_43 (by decide +kernel) ?_
      refine lv_icmp_gt (tgt := 94) hx hb dX5_when_45 (by decide) (fun c_6 => ?_) (fun c_6 => ?_)
      · replace hf := if_t c_6 hf
        refine lv_aload_n hx hb dX5_when_94 rfl (lv_at hl 0 rfl) ?_
        obtain ⟨a_7, ha_7, hf⟩ := bd_e hf
        refine Ct.callV (As := []) (rest := []) (st1 := []) (c_X5_forgets l D cI A q41.2.2 a_7 ha_7) hx hb hml hown hts (cwV 0 hts gX5_when_X5_forgets rfl rfl rfl hd_X5_forgets ⟨Nat.le_of_ble_eq_true rfl, Nat.le_of_ble_eq_true rfl⟩) (va_recv hK hP (ci := 5) (q0 := 0) rfl cM_at0) (Ln.id rfl) hA hK hP hD hS rfl hl.1 rfl rfl (Nat.le_of_ble_eq_true rfl) dX5_when_95 (fun H locs hP hD hS => ?_)
        replace hP : va_P D vwCl (cM cI A a_7) H := hP
        replace hD : va_D AA (cM cI A a_7) := hD
        refine lv_iload hx hb dX5_when_98 (lv_at hl 3 rfl) ?_
        exact hend (q41.1, a_7) H locs _ _ hf hP hS dX5_when_100
      · replace hf := if_f c_6 hf
        refine lv_iload hx hb dX5_when_48 (lv_at hl 3 rfl) ?_
        refine lv_if_ge (tgt := 94) hx hb dX5_when_50 (by decide) (fun c_8 => ?_) (fun c_8 => ?_)
        · replace hf := if_t c_8 hf
          refine lv_aload_n hx hb dX5_when_94 rfl (lv_at hl 0 rfl) ?_
          obtain ⟨a_9, ha_9, hf⟩ := bd_e hf
          refine Ct.callV (As := []) (rest := []) (st1 := []) (c_X5_forgets l D cI A q41.2.2 a_9 ha_9) hx hb hml hown hts (cwV 0 hts gX5_when_X5_forgets rfl rfl rfl hd_X5_forgets ⟨Nat.le_of_ble_eq_true rfl, Nat.le_of_ble_eq_true rfl⟩) (va_recv hK hP (ci := 5) (q0 := 0) rfl cM_at0) (Ln.id rfl) hA hK hP hD hS rfl hl.1 rfl rfl (Nat.le_of_ble_eq_true rfl) dX5_when_95 (fun H locs hP hD hS => ?_)
          replace hP : va_P D vwCl (cM cI A a_9) H := hP
          replace hD : va_D AA (cM cI A a_9) := hD
          refine lv_iload hx hb dX5_when_98 (lv_at hl 3 rfl) ?_
          exact hend (q41.1, a_9) H locs _ _ hf hP hS dX5_when_100
        · replace hf := if_f c_8 hf
          refine lv_aload_n hx hb dX5_when_53 rfl (lv_at hl 0 rfl) ?_
          refine va_get (D := D) (ci := 5) (v := .ref (A 4)) (C := RX5) (T := TX5) (N := 27) hx hb hts hw5 hown hK hP 0 cM_at0 rfl 3 (by decide) k19 (fun _ h9 => h9) rfl dX5_when_54 ?_
          refine lv_iload_n hx hb dX5_when_57 rfl (lv_at hl 1 rfl) ?_
          obtain ⟨c_10, hf⟩ := gi_e hf
          refine va_iald hx hb hK hP 4 0 cM_at4 rfl c_10 dX5_when_58 ?_
          refine lv_if_ne (tgt := 80) hx hb dX5_when_59 (by decide) (fun c_11 => ?_) (fun c_11 => ?_)
          · replace hf := if_f c_11 hf
            refine lv_bipush (v := -9) hx hb dX5_when_80 (by decide +kernel) ?_
            refine lv_istore (lv' := [(4, .int (-9 : Int32)), (0, .ref (A 0)), (1, .int p1), (2, .int p2), (5, .int q41.2.1)]) hx hb dX5_when_82 hl (by decide) rfl (fun ls hl => ?_)
            refine lv_aload_n hx hb dX5_when_84 rfl (lv_at hl 1 rfl) ?_
            obtain ⟨a_12, ha_12, hf⟩ := bd_e hf
            refine Ct.callV (As := []) (rest := []) (st1 := []) (c_X5_goesTide l D cI A q41.2.2 a_12 ha_12) hx hb hml hown hts (cwV 0 hts gX5_when_X5_goesTide rfl rfl rfl hd_X5_goesTide ⟨Nat.le_of_ble_eq_true rfl, Nat.le_of_ble_eq_true rfl⟩) (va_recv hK hP (ci := 5) (q0 := 0) rfl cM_at0) (Ln.id rfl) hA hK hP hD hS rfl hl.1 rfl rfl (Nat.le_of_ble_eq_true rfl) dX5_when_85 (fun H locs hP hD hS => ?_)
            replace hP : va_P D vwCl (cM cI A a_12) H := hP
            replace hD : va_D AA (cM cI A a_12) := hD
            obtain ⟨v_13, ev_13, hf⟩ := nq_e hf
            refine lv_iinc (v := v_13) (lv' := [(5, .int v_13), (4, .int (-9 : Int32)), (0, .ref (A 0)), (1, .int p1), (2, .int p2)]) hx hb dX5_when_88 hl (k := 4) rfl (by rw [ev_13]; rfl) (by decide) rfl (fun ls hl => ?_)
            refine lv_goto (tgt := 41) hx hb dX5_when_91 (by decide) ?_
            exact ih41 ((-9 : Int32), v_13, a_12) hf H locs ls hP hD hS (lv_sub hl [2, 3, 4, 1, 0] rfl)
          · replace hf := if_t c_11 hf
            refine lv_aload_n hx hb dX5_when_62 rfl (lv_at hl 0 rfl) ?_
            refine lv_iload_n hx hb dX5_when_63 rfl (lv_at hl 1 rfl) ?_
            obtain ⟨a_14, ha_14, hf⟩ := bd_e hf
            refine Ct.callV (As := [.int p1]) (rest := []) (st1 := [.int a_14.1]) (c_X5_fewestOf l D cI A q41.2.2 p1 a_14 ha_14) hx hb hml hown hts (cwV 1 hts gX5_when_X5_fewestOf rfl rfl rfl hd_X5_fewestOf ⟨Nat.le_of_ble_eq_true rfl, Nat.le_of_ble_eq_true rfl⟩) (va_recv hK hP (ci := 5) (q0 := 0) rfl cM_at0) (Ln.id rfl) hA hK hP hD hS rfl hl.1 rfl rfl (Nat.le_of_ble_eq_true rfl) dX5_when_64 (fun H locs hP hD hS => ?_)
            replace hP : va_P D vwCl (cM cI A a_14.2) H := hP
            replace hD : va_D AA (cM cI A a_14.2) := hD
            refine lv_iconst (v := 0) hx hb dX5_when_67 (by decide) ?_
            refine lv_iload_n hx hb dX5_when_68 rfl (lv_at hl 2 rfl) ?_
            obtain ⟨a_15, ha_15, hf⟩ := bd_e hf
            refine Ct.callS (As := [.int a_14.1, .int (0 : Int32), .int p2]) (rest := []) (st1 := [.int a_15]) (c_X5_isIn l D cI  a_14.1 (0 : Int32) p2 a_15 ha_15) hx hb hml hown hts (va_cwS 3 hts gX5_when_X5_isIn rfl rfl rfl hd_X5_isIn ⟨Nat.le_of_ble_eq_true rfl, Nat.le_of_ble_eq_true rfl⟩) Ln.nil hA hK hP hD hS rfl hl.1 rfl rfl (Nat.le_of_ble_eq_true rfl) dX5_when_69 (fun H locs hP hD hS => ?_)
            refine lv_if_eq (tgt := 80) hx hb dX5_when_72 (by decide) (fun c_16 => ?_) (fun c_16 => ?_)
            · replace hf := if_t c_16 hf
              refine lv_bipush (v := -9) hx hb dX5_when_80 (by decide +kernel) ?_
              refine lv_istore (lv' := [(4, .int (-9 : Int32)), (0, .ref (A 0)), (1, .int p1), (2, .int p2), (5, .int q41.2.1)]) hx hb dX5_when_82 hl (by decide) rfl (fun ls hl => ?_)
              refine lv_aload_n hx hb dX5_when_84 rfl (lv_at hl 1 rfl) ?_
              obtain ⟨a_17, ha_17, hf⟩ := bd_e hf
              refine Ct.callV (As := []) (rest := []) (st1 := []) (c_X5_goesTide l D cI A a_14.2 a_17 ha_17) hx hb hml hown hts (cwV 0 hts gX5_when_X5_goesTide rfl rfl rfl hd_X5_goesTide ⟨Nat.le_of_ble_eq_true rfl, Nat.le_of_ble_eq_true rfl⟩) (va_recv hK hP (ci := 5) (q0 := 0) rfl cM_at0) (Ln.id rfl) hA hK hP hD hS rfl hl.1 rfl rfl (Nat.le_of_ble_eq_true rfl) dX5_when_85 (fun H locs hP hD hS => ?_)
              replace hP : va_P D vwCl (cM cI A a_17) H := hP
              replace hD : va_D AA (cM cI A a_17) := hD
              obtain ⟨v_18, ev_18, hf⟩ := nq_e hf
              refine lv_iinc (v := v_18) (lv' := [(5, .int v_18), (4, .int (-9 : Int32)), (0, .ref (A 0)), (1, .int p1), (2, .int p2)]) hx hb dX5_when_88 hl (k := 4) rfl (by rw [ev_18]; rfl) (by decide) rfl (fun ls hl => ?_)
              refine lv_goto (tgt := 41) hx hb dX5_when_91 (by decide) ?_
              exact ih41 ((-9 : Int32), v_18, a_17) hf H locs ls hP hD hS (lv_sub hl [2, 3, 4, 1, 0] rfl)
            · replace hf := if_f c_16 hf
              refine lv_iload hx hb dX5_when_75 (lv_at hl 4 rfl) ?_
              refine lv_goto (tgt := 82) hx hb dX5_when_77 (by decide) ?_
              refine lv_istore (lv' := [(4, .int q41.2.1), (0, .ref (A 0)), (1, .int p1), (2, .int p2), (5, .int q41.2.1)]) hx hb dX5_when_82 hl (by decide) rfl (fun ls hl => ?_)
              refine lv_aload_n hx hb dX5_when_84 rfl (lv_at hl 1 rfl) ?_
              obtain ⟨a_19, ha_19, hf⟩ := bd_e hf
              refine Ct.callV (As := []) (rest := []) (st1 := []) (c_X5_goesTide l D cI A a_14.2 a_19 ha_19) hx hb hml hown hts (cwV 0 hts gX5_when_X5_goesTide rfl rfl rfl hd_X5_goesTide ⟨Nat.le_of_ble_eq_true rfl, Nat.le_of_ble_eq_true rfl⟩) (va_recv hK hP (ci := 5) (q0 := 0) rfl cM_at0) (Ln.id rfl) hA hK hP hD hS rfl hl.1 rfl rfl (Nat.le_of_ble_eq_true rfl) dX5_when_85 (fun H locs hP hD hS => ?_)
              replace hP : va_P D vwCl (cM cI A a_19) H := hP
              replace hD : va_D AA (cM cI A a_19) := hD
              obtain ⟨v_20, ev_20, hf⟩ := nq_e hf
              refine lv_iinc (v := v_20) (lv' := [(5, .int v_20), (4, .int q41.2.1), (0, .ref (A 0)), (1, .int p1), (2, .int p2)]) hx hb dX5_when_88 hl (k := 4) rfl (by rw [ev_20]; rfl) (by decide) rfl (fun ls hl => ?_)
              refine lv_goto (tgt := 41) hx hb dX5_when_91 (by decide) ?_
              exact ih41 (q41.2.1, v_20, a_19) hf H locs ls hP hD hS (lv_sub hl [2, 3, 4, 1, 0] rfl)
    · replace hf := if_f c_4 hf
      refine lv_aload_n hx hb dX5_when_24 rfl (lv_at hl 1 rfl) ?_
      refine lv_iload_n hx hb dX5_when_25 rfl (lv_at hl 0 rfl) ?_
      obtain ⟨a_21, ha_21, hf⟩ := bd_e hf
      refine Ct.callV (As := [.int a_3]) (rest := []) (st1 := [.int a_21.1]) (c_X5_no l D cI A M a_3 a_21 ha_21) hx hb hml hown hts (cwV 1 hts gX5_when_X5_no rfl rfl rfl hd_X5_no ⟨Nat.le_of_ble_eq_true rfl, Nat.le_of_ble_eq_true rfl⟩) (va_recv hK hP (ci := 5) (q0 := 0) rfl cM_at0) (Ln.id rfl) hA hK hP hD hS rfl hl.1 rfl rfl (Nat.le_of_ble_eq_true rfl) dX5_when_26 (fun H locs hP hD hS => ?_)
      replace hP : va_P D vwCl (cM cI A a_21.2) H := hP
      replace hD : va_D AA (cM cI A a_21.2) := hD
      exact hend (a_21.1, a_21.2) H locs _ _ hf hP hS dX5_when_29
  · replace hf := if_t c_2 hf
    refine lv_iconst (v := -1) hx hb dX5_when_8 (by decide) ?_
    refine lv_goto (tgt := 19) hx hb dX5_when_9 (by decide) ?_
    refine lv_istore_n (lv' := [(3, .int (-1 : Int32)), (0, .ref (A 0)), (1, .int p1), (2, .int p2)]) hx hb dX5_when_19 rfl hl (by decide) rfl (fun ls hl => ?_)
    refine lv_iload_n hx hb dX5_when_20 rfl (lv_at hl 0 rfl) ?_
    refine lv_if_eq (tgt := 30) hx hb dX5_when_21 (by decide) (fun c0 => absurd c0 (by decide)) (fun _ => ?_)
    refine lv_aload_n hx hb dX5_when_24 rfl (lv_at hl 1 rfl) ?_
    refine lv_iload_n hx hb dX5_when_25 rfl (lv_at hl 0 rfl) ?_
    obtain ⟨a_22, ha_22, hf⟩ := bd_e hf
    refine Ct.callV (As := [.int (-1 : Int32)]) (rest := []) (st1 := [.int a_22.1]) (c_X5_no l D cI A M (-1 : Int32) a_22 ha_22) hx hb hml hown hts (cwV 1 hts gX5_when_X5_no rfl rfl rfl hd_X5_no ⟨Nat.le_of_ble_eq_true rfl, Nat.le_of_ble_eq_true rfl⟩) (va_recv hK hP (ci := 5) (q0 := 0) rfl cM_at0) (Ln.id rfl) hA hK hP hD hS rfl hl.1 rfl rfl (Nat.le_of_ble_eq_true rfl) dX5_when_26 (fun H locs hP hD hS => ?_)
    replace hP : va_P D vwCl (cM cI A a_22.2) H := hP
    replace hD : va_D AA (cM cI A a_22.2) := hD
    exact hend (a_22.1, a_22.2) H locs _ _ hf hP hS dX5_when_29

def rm_X5_cheapest : Room := { frames := 4, cells := 0, slots := 0, locals := 92 }
theorem hd_X5_cheapest : yX5_cheapest.cls = RX5 ∧ yX5_cheapest.cls ≠ "java/lang/invoke/MethodHandle" ∧ yX5_cheapest.cls ≠ "java/lang/invoke/VarHandle" ∧ (parseMethodDescriptor yX5_cheapest.desc).map (fun d => d.parameters.length) = some 0 := by decide +kernel
set_option maxRecDepth 100000 in
set_option maxHeartbeats 4000000 in
theorem c_X5_cheapest (l : Launch) (D : va_G) (cI : ClassId) (A : Nat → Nat) (M : St) (r : Int32 × St) (hf : f_X5_cheapest M = some r) : Ct l yX5_cheapest wsX5_cheapest rm_X5_cheapest D cI (cM cI A M) (cM cI A r.2) [.ref (A 0)] (some (.int r.1)) := by
  unfold f_X5_cheapest at hf
  refine Ct.ofI (cc := cX5_cheapest) (maxL := 5) (by decide +kernel) rfl (Nat.le_of_ble_eq_true rfl) ?_
  intro p e s m args below meth c AA Q H locs ls hx hb hml hown hts hA hK hP hD hS hl hend0
  have hend : ∀ (r1 : Int32 × St) (H : Heap) (locs : List Loc) (pc : Nat) (ls : Array Slot), some r1 = some r → va_P D vwCl (cM cI A r1.2) H → va_S AA s.heap H locs → decode cX5_cheapest pc = .ok (.ireturn, 1) → W p l e rm_X5_cheapest s m args below meth c H locs 0 0 Q (F0 m pc ls [.int r1.1]) := by
    intro r1 H locs pc ls e1 hP hS hd; cases e1; exact hend0 H locs pc ls hP hS hd
  clear hend0
  have hw5 : ∀ w ∈ wsX50, w ∈ wsX5_cheapest := by decide +kernel
  have k19 := hts (.fieldLink RX5 19 "AnchorsForConfessionModel" "out" "[I") (by decide +kernel)
  have k58 := hts (.fieldLink RX5 58 "AnchorsForConfessionModel" "ships" "I") (by decide +kernel)
  replace hl : lv_has ls 5 [(0, .ref (A 0))] := hl
  refine lv_bipush (v := -9) hx hb dX5_cheapest_0 (by decide +kernel) ?_
  refine lv_istore_n (lv' := [(1, .int (-9 : Int32)), (0, .ref (A 0))]) hx hb dX5_cheapest_2 rfl hl (by decide) rfl (fun ls hl => ?_)
  refine lv_bipush (v := -9) hx hb dX5_cheapest_3 (by decide +kernel) ?_
  refine lv_istore_n (lv' := [(2, .int (-9 : Int32)), (1, .int (-9 : Int32)), (0, .ref (A 0))]) hx hb dX5_cheapest_5 rfl hl (by decide) rfl (fun ls hl => ?_)
  refine lv_iconst (v := 0) hx hb dX5_cheapest_6 (by decide) ?_
  refine lv_istore_n (lv' := [(3, .int (0 : Int32)), (2, .int (-9 : Int32)), (1, .int (-9 : Int32)), (0, .ref (A 0))]) hx hb dX5_cheapest_7 rfl hl (by decide) rfl (fun ls hl => ?_)
  refine lp_ind (P := fun (q8 : Int32 × Int32 × Int32 × St) => ∀ (H : Heap) (locs : List Loc) (ls : Array Slot), va_P D vwCl (cM cI A q8.2.2.2) H → va_D AA (cM cI A q8.2.2.2) → va_S AA s.heap H locs → lv_has ls 5 [(0, .ref (A 0)), (1, .int q8.1), (2, .int q8.2.1), (3, .int q8.2.2.1)] → W p l e rm_X5_cheapest s m args below meth c H locs 0 0 Q (F0 m 8 ls [])) hf ?_ H locs ls hP hD hS (lv_sub hl [3, 2, 1, 0] rfl)
  clear hf hP hD hS hl
  intro nx8 ih8 q8 hf H locs ls hP hD hS hl
  refine lv_iload_n hx hb dX5_cheapest_8 rfl (lv_at hl 3 rfl) ?_
  refine lv_aload_n hx hb dX5_cheapest_9 rfl (lv_at hl 0 rfl) ?_
  refine va_get (D := D) (ci := 5) (v := .int (q8.2.2.2 16 0)) (C := RX5) (T := TX5) (N := 27) hx hb hts hw5 hown hK hP 0 cM_at0 rfl 8 (by decide) k58 (fun _ h9 => h9) rfl dX5_cheapest_10 ?_
  refine lv_icmp_ge (tgt := 66) hx hb dX5_cheapest_13 (by decide) (fun c_1 => ?_) (fun c_1 => ?_)
  · replace hf := if_t c_1 hf
    refine lv_iload_n hx hb dX5_cheapest_66 rfl (lv_at hl 1 rfl) ?_
    exact hend (q8.1, q8.2.2.2) H locs _ _ hf hP hS dX5_cheapest_67
  · replace hf := if_f c_1 hf
    refine lv_aload_n hx hb dX5_cheapest_16 rfl (lv_at hl 0 rfl) ?_
    refine va_get (D := D) (ci := 5) (v := .ref (A 4)) (C := RX5) (T := TX5) (N := 27) hx hb hts hw5 hown hK hP 0 cM_at0 rfl 3 (by decide) k19 (fun _ h9 => h9) rfl dX5_cheapest_17 ?_
    refine lv_iload_n hx hb dX5_cheapest_20 rfl (lv_at hl 3 rfl) ?_
    obtain ⟨c_2, hf⟩ := gi_e hf
    refine va_iald hx hb hK hP 4 0 cM_at4 rfl c_2 dX5_cheapest_21 ?_
    refine lv_if_le (tgt := 30) hx hb dX5_cheapest_22 (by decide) (fun c_3 => ?_) (fun c_3 => ?_)
    · replace hf := if_t c_3 hf
      refine lv_aload_n hx hb dX5_cheapest_30 rfl (lv_at hl 0 rfl) ?_
      refine lv_iload_n hx hb dX5_cheapest_31 rfl (lv_at hl 3 rfl) ?_
      obtain ⟨a_4, ha_4, hf⟩ := bd_e hf
      refine Ct.callV (As := [.int q8.2.2.1]) (rest := []) (st1 := [.int a_4.1]) (c_X5_fewestOf l D cI A q8.2.2.2 q8.2.2.1 a_4 ha_4) hx hb hml hown hts (cwV 1 hts gX5_cheapest_X5_fewestOf rfl rfl rfl hd_X5_fewestOf ⟨Nat.le_of_ble_eq_true rfl, Nat.le_of_ble_eq_true rfl⟩) (va_recv hK hP (ci := 5) (q0 := 0) rfl cM_at0) (Ln.id rfl) hA hK hP hD hS rfl hl.1 rfl rfl (Nat.le_of_ble_eq_true rfl) dX5_cheapest_32 (fun H locs hP hD hS => ?_)
      replace hP : va_P D vwCl (cM cI A a_4.2) H := hP
      replace hD : va_D AA (cM cI A a_4.2) := hD
      refine lv_istore (lv' := [(4, .int a_4.1), (0, .ref (A 0)), (1, .int q8.1), (2, .int q8.2.1), (3, .int q8.2.2.1)]) hx hb dX5_cheapest_35 hl (by decide) rfl (fun ls hl => ?_)
      refine lv_iload hx hb dX5_cheapest_37 (lv_at hl 0 rfl) ?_
      refine lv_if_lt (tgt := 60) hx hb dX5_cheapest_39 (by decide) (fun c_5 => ?_) (fun c_5 => ?_)
      · replace hf := if_t c_5 hf
        obtain ⟨v_6, ev_6, hf⟩ := nq_e hf
        refine lv_iinc (v := v_6) (lv' := [(3, .int v_6), (4, .int a_4.1), (0, .ref (A 0)), (1, .int q8.1), (2, .int q8.2.1)]) hx hb dX5_cheapest_60 hl (k := 4) rfl (by rw [ev_6]; rfl) (by decide) rfl (fun ls hl => ?_)
        refine lv_goto (tgt := 8) hx hb dX5_cheapest_63 (by decide) ?_
        exact ih8 (q8.1, q8.2.1, v_6, a_4.2) hf H locs ls hP hD hS (lv_sub hl [2, 3, 4, 0] rfl)
      · replace hf := if_f c_5 hf
        refine lv_iload_n hx hb dX5_cheapest_42 rfl (lv_at hl 2 rfl) ?_
        refine lv_if_lt (tgt := 55) hx hb dX5_cheapest_43 (by decide) (fun c_7 => ?_) (fun c_7 => ?_)
        · replace hf := if_t c_7 hf
          refine lv_iload_n hx hb dX5_cheapest_55 rfl (lv_at hl 4 rfl) ?_
          refine lv_istore_n (lv' := [(1, .int q8.2.2.1), (4, .int a_4.1), (0, .ref (A 0)), (2, .int q8.2.1), (3, .int q8.2.2.1)]) hx hb dX5_cheapest_56 rfl hl (by decide) rfl (fun ls hl => ?_)
          refine lv_iload hx hb dX5_cheapest_57 (lv_at hl 1 rfl) ?_
          refine lv_istore_n (lv' := [(2, .int a_4.1), (1, .int q8.2.2.1), (4, .int a_4.1), (0, .ref (A 0)), (3, .int q8.2.2.1)]) hx hb dX5_cheapest_59 rfl hl (by decide) rfl (fun ls hl => ?_)
          obtain ⟨v_8, ev_8, hf⟩ := nq_e hf
          refine lv_iinc (v := v_8) (lv' := [(3, .int v_8), (2, .int a_4.1), (1, .int q8.2.2.1), (4, .int a_4.1), (0, .ref (A 0))]) hx hb dX5_cheapest_60 hl (k := 4) rfl (by rw [ev_8]; rfl) (by decide) rfl (fun ls hl => ?_)
          refine lv_goto (tgt := 8) hx hb dX5_cheapest_63 (by decide) ?_
          exact ih8 (q8.2.2.1, a_4.1, v_8, a_4.2) hf H locs ls hP hD hS (lv_sub hl [4, 2, 1, 0] rfl)
        · replace hf := if_f c_7 hf
          refine lv_iload hx hb dX5_cheapest_46 (lv_at hl 0 rfl) ?_
          refine lv_iload_n hx hb dX5_cheapest_48 rfl (lv_at hl 3 rfl) ?_
          refine lv_icmp_lt (tgt := 55) hx hb dX5_cheapest_49 (by decide) (fun c_9 => ?_) (fun c_9 => ?_)
          · replace hf := if_t c_9 hf
            refine lv_iload_n hx hb dX5_cheapest_55 rfl (lv_at hl 4 rfl) ?_
            refine lv_istore_n (lv' := [(1, .int q8.2.2.1), (4, .int a_4.1), (0, .ref (A 0)), (2, .int q8.2.1), (3, .int q8.2.2.1)]) hx hb dX5_cheapest_56 rfl hl (by decide) rfl (fun ls hl => ?_)
            refine lv_iload hx hb dX5_cheapest_57 (lv_at hl 1 rfl) ?_
            refine lv_istore_n (lv' := [(2, .int a_4.1), (1, .int q8.2.2.1), (4, .int a_4.1), (0, .ref (A 0)), (3, .int q8.2.2.1)]) hx hb dX5_cheapest_59 rfl hl (by decide) rfl (fun ls hl => ?_)
            obtain ⟨v_10, ev_10, hf⟩ := nq_e hf
            refine lv_iinc (v := v_10) (lv' := [(3, .int v_10), (2, .int a_4.1), (1, .int q8.2.2.1), (4, .int a_4.1), (0, .ref (A 0))]) hx hb dX5_cheapest_60 hl (k := 4) rfl (by rw [ev_10]; rfl) (by decide) rfl (fun ls hl => ?_)
            refine lv_goto (tgt := 8) hx hb dX5_cheapest_63 (by decide) ?_
            exact ih8 (q8.2.2.1, a_4.1, v_10, a_4.2) hf H locs ls hP hD hS (lv_sub hl [4, 2, 1, 0] rfl)
          · replace hf := if_f c_9 hf
            refine lv_goto (tgt := 60) hx hb dX5_cheapest_52 (by decide) ?_
            obtain ⟨v_11, ev_11, hf⟩ := nq_e hf
            refine lv_iinc (v := v_11) (lv' := [(3, .int v_11), (4, .int a_4.1), (0, .ref (A 0)), (1, .int q8.1), (2, .int q8.2.1)]) hx hb dX5_cheapest_60 hl (k := 4) rfl (by rw [ev_11]; rfl) (by decide) rfl (fun ls hl => ?_)
            refine lv_goto (tgt := 8) hx hb dX5_cheapest_63 (by decide) ?_
            exact ih8 (q8.1, q8.2.1, v_11, a_4.2) hf H locs ls hP hD hS (lv_sub hl [2, 3, 4, 0] rfl)
    · replace hf := if_f c_3 hf
      refine lv_bipush (v := -9) hx hb dX5_cheapest_25 (by decide +kernel) ?_
      refine lv_goto (tgt := 35) hx hb dX5_cheapest_27 (by decide) ?_
      refine lv_istore (lv' := [(4, .int (-9 : Int32)), (0, .ref (A 0)), (1, .int q8.1), (2, .int q8.2.1), (3, .int q8.2.2.1)]) hx hb dX5_cheapest_35 hl (by decide) rfl (fun ls hl => ?_)
      refine lv_iload hx hb dX5_cheapest_37 (lv_at hl 0 rfl) ?_
      refine lv_if_lt (tgt := 60) hx hb dX5_cheapest_39 (by decide) (fun _ => ?_) (fun c0 => absurd c0 (by decide))
      obtain ⟨v_12, ev_12, hf⟩ := nq_e hf
      refine lv_iinc (v := v_12) (lv' := [(3, .int v_12), (4, .int (-9 : Int32)), (0, .ref (A 0)), (1, .int q8.1), (2, .int q8.2.1)]) hx hb dX5_cheapest_60 hl (k := 4) rfl (by rw [ev_12]; rfl) (by decide) rfl (fun ls hl => ?_)
      refine lv_goto (tgt := 8) hx hb dX5_cheapest_63 (by decide) ?_
      exact ih8 (q8.1, q8.2.1, v_12, q8.2.2.2) hf H locs ls hP hD hS (lv_sub hl [2, 3, 4, 0] rfl)

def rm_X5_canRiseOnes : Room := { frames := 4, cells := 0, slots := 0, locals := 90 }
theorem hd_X5_canRiseOnes : yX5_canRiseOnes.cls = RX5 ∧ yX5_canRiseOnes.cls ≠ "java/lang/invoke/MethodHandle" ∧ yX5_canRiseOnes.cls ≠ "java/lang/invoke/VarHandle" ∧ (parseMethodDescriptor yX5_canRiseOnes.desc).map (fun d => d.parameters.length) = some 0 := by decide +kernel
set_option maxRecDepth 100000 in
set_option maxHeartbeats 4000000 in
theorem c_X5_canRiseOnes (l : Launch) (D : va_G) (cI : ClassId) (A : Nat → Nat) (M : St) (r : Int32) (hf : f_X5_canRiseOnes M = some r) : Ct l yX5_canRiseOnes wsX5_canRiseOnes rm_X5_canRiseOnes D cI (cM cI A M) (cM cI A M) [.ref (A 0)] (some (.int r)) := by
  unfold f_X5_canRiseOnes at hf
  refine Ct.ofI (cc := cX5_canRiseOnes) (maxL := 3) (by decide +kernel) rfl (Nat.le_of_ble_eq_true rfl) ?_
  intro p e s m args below meth c AA Q H locs ls hx hb hml hown hts hA hK hP hD hS hl hend0
  have hend : ∀ (r1 : Int32) (H : Heap) (locs : List Loc) (pc : Nat) (ls : Array Slot), some r1 = some r → va_P D vwCl (cM cI A M) H → va_S AA s.heap H locs → decode cX5_canRiseOnes pc = .ok (.ireturn, 1) → W p l e rm_X5_canRiseOnes s m args below meth c H locs 0 0 Q (F0 m pc ls [.int r1]) := by
    intro r1 H locs pc ls e1 hP hS hd; cases e1; exact hend0 H locs pc ls hP hS hd
  clear hend0
  have hw5 : ∀ w ∈ wsX50, w ∈ wsX5_canRiseOnes := by decide +kernel
  have k58 := hts (.fieldLink RX5 58 "AnchorsForConfessionModel" "ships" "I") (by decide +kernel)
  replace hl : lv_has ls 3 [(0, .ref (A 0))] := hl
  refine lv_iconst (v := 0) hx hb dX5_canRiseOnes_0 (by decide) ?_
  refine lv_istore_n (lv' := [(1, .int (0 : Int32)), (0, .ref (A 0))]) hx hb dX5_canRiseOnes_1 rfl hl (by decide) rfl (fun ls hl => ?_)
  refine lv_iconst (v := 0) hx hb dX5_canRiseOnes_2 (by decide) ?_
  refine lv_istore_n (lv' := [(2, .int (0 : Int32)), (1, .int (0 : Int32)), (0, .ref (A 0))]) hx hb dX5_canRiseOnes_3 rfl hl (by decide) rfl (fun ls hl => ?_)
  refine lp_ind (P := fun (q4 : Int32 × Int32) => ∀ (H : Heap) (locs : List Loc) (ls : Array Slot), va_P D vwCl (cM cI A M) H → va_D AA (cM cI A M) → va_S AA s.heap H locs → lv_has ls 3 [(0, .ref (A 0)), (1, .int q4.1), (2, .int q4.2)] → W p l e rm_X5_canRiseOnes s m args below meth c H locs 0 0 Q (F0 m 4 ls [])) hf ?_ H locs ls hP hD hS (lv_sub hl [2, 1, 0] rfl)
  clear hf hP hD hS hl
  intro nx4 ih4 q4 hf H locs ls hP hD hS hl
  refine lv_iload_n hx hb dX5_canRiseOnes_4 rfl (lv_at hl 2 rfl) ?_
  refine lv_aload_n hx hb dX5_canRiseOnes_5 rfl (lv_at hl 0 rfl) ?_
  refine va_get (D := D) (ci := 5) (v := .int (M 16 0)) (C := RX5) (T := TX5) (N := 27) hx hb hts hw5 hown hK hP 0 cM_at0 rfl 8 (by decide) k58 (fun _ h9 => h9) rfl dX5_canRiseOnes_6 ?_
  refine lv_icmp_ge (tgt := 34) hx hb dX5_canRiseOnes_9 (by decide) (fun c_1 => ?_) (fun c_1 => ?_)
  · replace hf := if_t c_1 hf
    refine lv_iload_n hx hb dX5_canRiseOnes_34 rfl (lv_at hl 1 rfl) ?_
    exact hend q4.1 H locs _ _ hf hP hS dX5_canRiseOnes_35
  · replace hf := if_f c_1 hf
    refine lv_iload_n hx hb dX5_canRiseOnes_12 rfl (lv_at hl 1 rfl) ?_
    refine lv_aload_n hx hb dX5_canRiseOnes_13 rfl (lv_at hl 0 rfl) ?_
    refine lv_iload_n hx hb dX5_canRiseOnes_14 rfl (lv_at hl 2 rfl) ?_
    obtain ⟨a_2, ha_2, hf⟩ := bd_e hf
    refine Ct.callV (As := [.int q4.2]) (rest := [.int q4.1]) (st1 := [.int a_2, .int q4.1]) (c_X5_canRise l D cI A M q4.2 a_2 ha_2) hx hb hml hown hts (cwV 1 hts gX5_canRiseOnes_X5_canRise rfl rfl rfl hd_X5_canRise ⟨Nat.le_of_ble_eq_true rfl, Nat.le_of_ble_eq_true rfl⟩) (va_recv hK hP (ci := 5) (q0 := 0) rfl cM_at0) (Ln.id rfl) hA hK hP hD hS rfl hl.1 rfl rfl (Nat.le_of_ble_eq_true rfl) dX5_canRiseOnes_15 (fun H locs hP hD hS => ?_)
    refine lv_if_eq (tgt := 25) hx hb dX5_canRiseOnes_18 (by decide) (fun c_3 => ?_) (fun c_3 => ?_)
    · replace hf := if_t c_3 hf
      refine lv_iconst (v := 0) hx hb dX5_canRiseOnes_25 (by decide) ?_
      refine lv_iadd hx hb dX5_canRiseOnes_26 ?_
      refine lv_topi (fun v_4 ev_4 => ?_)
      replace hf := nm_at ev_4 hf
      refine lv_istore_n (lv' := [(1, .int v_4), (0, .ref (A 0)), (2, .int q4.2)]) hx hb dX5_canRiseOnes_27 rfl hl (by decide) rfl (fun ls hl => ?_)
      obtain ⟨v_5, ev_5, hf⟩ := nq_e hf
      refine lv_iinc (v := v_5) (lv' := [(2, .int v_5), (1, .int v_4), (0, .ref (A 0))]) hx hb dX5_canRiseOnes_28 hl (k := 2) rfl (by rw [ev_5]; rfl) (by decide) rfl (fun ls hl => ?_)
      refine lv_goto (tgt := 4) hx hb dX5_canRiseOnes_31 (by decide) ?_
      exact ih4 (v_4, v_5) hf H locs ls hP hD hS (lv_sub hl [2, 1, 0] rfl)
    · replace hf := if_f c_3 hf
      refine lv_iconst (v := 1) hx hb dX5_canRiseOnes_21 (by decide) ?_
      refine lv_goto (tgt := 26) hx hb dX5_canRiseOnes_22 (by decide) ?_
      refine lv_iadd hx hb dX5_canRiseOnes_26 ?_
      refine lv_topi (fun v_6 ev_6 => ?_)
      replace hf := nm_at ev_6 hf
      refine lv_istore_n (lv' := [(1, .int v_6), (0, .ref (A 0)), (2, .int q4.2)]) hx hb dX5_canRiseOnes_27 rfl hl (by decide) rfl (fun ls hl => ?_)
      obtain ⟨v_7, ev_7, hf⟩ := nq_e hf
      refine lv_iinc (v := v_7) (lv' := [(2, .int v_7), (1, .int v_6), (0, .ref (A 0))]) hx hb dX5_canRiseOnes_28 hl (k := 2) rfl (by rw [ev_7]; rfl) (by decide) rfl (fun ls hl => ?_)
      refine lv_goto (tgt := 4) hx hb dX5_canRiseOnes_31 (by decide) ?_
      exact ih4 (v_6, v_7) hf H locs ls hP hD hS (lv_sub hl [2, 1, 0] rfl)

def rm_X5_berth : Room := { frames := 5, cells := 0, slots := 0, locals := 112 }
theorem hd_X5_berth : yX5_berth.cls = RX5 ∧ yX5_berth.cls ≠ "java/lang/invoke/MethodHandle" ∧ yX5_berth.cls ≠ "java/lang/invoke/VarHandle" ∧ (parseMethodDescriptor yX5_berth.desc).map (fun d => d.parameters.length) = some 1 := by decide +kernel
set_option maxRecDepth 100000 in
set_option maxHeartbeats 4000000 in
theorem c_X5_berth (l : Launch) (D : va_G) (cI : ClassId) (A : Nat → Nat) (M : St) (p1 : Int32) (r : Int32 × St) (hf : f_X5_berth M p1 = some r) : Ct l yX5_berth wsX5_berth rm_X5_berth D cI (cM cI A M) (cM cI A r.2) [.ref (A 0), .int p1] (some (.int r.1)) := by
  unfold f_X5_berth at hf
  refine Ct.ofI (cc := cX5_berth) (maxL := 7) (by decide +kernel) rfl (Nat.le_of_ble_eq_true rfl) ?_
  intro p e s m args below meth c AA Q H locs ls hx hb hml hown hts hA hK hP hD hS hl hend0
  have hend : ∀ (r1 : Int32 × St) (H : Heap) (locs : List Loc) (pc : Nat) (ls : Array Slot), some r1 = some r → va_P D vwCl (cM cI A r1.2) H → va_S AA s.heap H locs → decode cX5_berth pc = .ok (.ireturn, 1) → W p l e rm_X5_berth s m args below meth c H locs 0 0 Q (F0 m pc ls [.int r1.1]) := by
    intro r1 H locs pc ls e1 hP hS hd; cases e1; exact hend0 H locs pc ls hP hS hd
  clear hend0
  have hw5 : ∀ w ∈ wsX50, w ∈ wsX5_berth := by decide +kernel
  have k19 := hts (.fieldLink RX5 19 "AnchorsForConfessionModel" "out" "[I") (by decide +kernel)
  have k31 := hts (.fieldLink RX5 31 "AnchorsForConfessionModel" "aboard" "[I") (by decide +kernel)
  have k58 := hts (.fieldLink RX5 58 "AnchorsForConfessionModel" "ships" "I") (by decide +kernel)
  replace hl : lv_has ls 7 [(0, .ref (A 0)), (1, .int p1)] := hl
  refine lv_aload_n hx hb dX5_berth_0 rfl (lv_at hl 0 rfl) ?_
  refine lv_iload_n hx hb dX5_berth_1 rfl (lv_at hl 1 rfl) ?_
  obtain ⟨a_1, ha_1, hf⟩ := bd_e hf
  refine Ct.callV (As := [.int p1]) (rest := []) (st1 := [.int a_1]) (c_X5_isMan l D cI A M p1 a_1 ha_1) hx hb hml hown hts (cwV 1 hts gX5_berth_X5_isMan rfl rfl rfl hd_X5_isMan ⟨Nat.le_of_ble_eq_true rfl, Nat.le_of_ble_eq_true rfl⟩) (va_recv hK hP (ci := 5) (q0 := 0) rfl cM_at0) (Ln.id rfl) hA hK hP hD hS rfl hl.1 rfl rfl (Nat.le_of_ble_eq_true rfl) dX5_berth_2 (fun H locs hP hD hS => ?_)
  refine lv_if_ne (tgt := 14) hx hb dX5_berth_5 (by decide) (fun c_2 => ?_) (fun c_2 => ?_)
  · replace hf := if_f c_2 hf
    refine lv_aload_n hx hb dX5_berth_14 rfl (lv_at hl 0 rfl) ?_
    refine va_get (D := D) (ci := 5) (v := .ref (A 8)) (C := RX5) (T := TX5) (N := 27) hx hb hts hw5 hown hK hP 0 cM_at0 rfl 7 (by decide) k31 (fun _ h9 => h9) rfl dX5_berth_15 ?_
    refine lv_iload_n hx hb dX5_berth_18 rfl (lv_at hl 1 rfl) ?_
    obtain ⟨c_3, hf⟩ := gi_e hf
    refine va_iald hx hb hK hP 8 0 cM_at8 rfl c_3 dX5_berth_19 ?_
    refine lv_topi (fun v_4 ev_4 => ?_)
    replace hf := nm_at ev_4 hf
    refine lv_istore_n (lv' := [(2, .int v_4), (0, .ref (A 0)), (1, .int p1)]) hx hb dX5_berth_20 rfl hl (by decide) rfl (fun ls hl => ?_)
    refine lv_bipush (v := -9) hx hb dX5_berth_21 (by decide +kernel) ?_
    refine lv_istore_n (lv' := [(3, .int (-9 : Int32)), (2, .int v_4), (0, .ref (A 0)), (1, .int p1)]) hx hb dX5_berth_23 rfl hl (by decide) rfl (fun ls hl => ?_)
    refine lv_aload_n hx hb dX5_berth_24 rfl (lv_at hl 2 rfl) ?_
    obtain ⟨a_5, ha_5, hf⟩ := bd_e hf
    refine Ct.callV (As := []) (rest := []) (st1 := [.int a_5]) (c_X5_canRiseOnes l D cI A M a_5 ha_5) hx hb hml hown hts (cwV 0 hts gX5_berth_X5_canRiseOnes rfl rfl rfl hd_X5_canRiseOnes ⟨Nat.le_of_ble_eq_true rfl, Nat.le_of_ble_eq_true rfl⟩) (va_recv hK hP (ci := 5) (q0 := 0) rfl cM_at0) (Ln.id rfl) hA hK hP hD hS rfl hl.1 rfl rfl (Nat.le_of_ble_eq_true rfl) dX5_berth_25 (fun H locs hP hD hS => ?_)
    refine lv_istore (lv' := [(4, .int a_5), (3, .int (-9 : Int32)), (2, .int v_4), (0, .ref (A 0)), (1, .int p1)]) hx hb dX5_berth_28 hl (by decide) rfl (fun ls hl => ?_)
    refine lv_iconst (v := 0) hx hb dX5_berth_30 (by decide) ?_
    refine lv_istore (lv' := [(5, .int (0 : Int32)), (4, .int a_5), (3, .int (-9 : Int32)), (2, .int v_4), (0, .ref (A 0)), (1, .int p1)]) hx hb dX5_berth_31 hl (by decide) rfl (fun ls hl => ?_)
    refine lp_ind (P := fun (q33 : Int32 × Int32 × Int32 × St) => ∀ (H : Heap) (locs : List Loc) (ls : Array Slot), va_P D vwCl (cM cI A q33.2.2.2) H → va_D AA (cM cI A q33.2.2.2) → va_S AA s.heap H locs → lv_has ls 7 [(0, .ref (A 0)), (1, .int p1), (2, .int v_4), (3, .int q33.1), (4, .int q33.2.1), (5, .int q33.2.2.1)] → W p l e rm_X5_berth s m args below meth c H locs 0 0 Q (F0 m 33 ls [])) hf ?_ H locs ls hP hD hS (lv_sub hl [4, 5, 3, 2, 1, 0] rfl)
    clear hf hP hD hS hl
    intro nx33 ih33 q33 hf H locs ls hP hD hS hl
    refine lv_iload hx hb dX5_berth_33 (lv_at hl 5 rfl) ?_
    refine lv_aload_n hx hb dX5_berth_35 rfl (lv_at hl 0 rfl) ?_
    refine va_get (D := D) (ci := 5) (v := .int (q33.2.2.2 16 0)) (C := RX5) (T := TX5) (N := 27) hx hb hts hw5 hown hK hP 0 cM_at0 rfl 8 (by decide) k58 (fun _ h9 => h9) rfl dX5_berth_36 ?_
    refine lv_icmp_ge (tgt := 92) hx hb dX5_berth_39 (by decide) (fun c_6 => ?_) (fun c_6 => ?_)
    · replace hf := if_t c_6 hf
      refine lv_aload_n hx hb dX5_berth_92 rfl (lv_at hl 0 rfl) ?_
      refine va_get (D := D) (ci := 5) (v := .ref (A 8)) (C := RX5) (T := TX5) (N := 27) hx hb hts hw5 hown hK hP 0 cM_at0 rfl 7 (by decide) k31 (fun _ h9 => h9) rfl dX5_berth_93 ?_
      refine lv_iload_n hx hb dX5_berth_96 rfl (lv_at hl 1 rfl) ?_
      refine lv_iload_n hx hb dX5_berth_97 rfl (lv_at hl 2 rfl) ?_
      obtain ⟨c_7, hf⟩ := gi_e hf
      refine va_iast hx hb hK hP hD hS 8 0 cM_at8 rfl c_7 dX5_berth_98 (fun H locs hP hD hS => ?_)
      obtain ⟨h_8, eh_8, hf⟩ := nq_e hf
      rw [cM_su8, ← eh_8] at hP hD
      refine lv_iload_n hx hb dX5_berth_99 rfl (lv_at hl 3 rfl) ?_
      exact hend (q33.1, h_8) H locs _ _ hf hP hS dX5_berth_100
    · replace hf := if_f c_6 hf
      refine lv_aload_n hx hb dX5_berth_42 rfl (lv_at hl 0 rfl) ?_
      refine va_get (D := D) (ci := 5) (v := .ref (A 4)) (C := RX5) (T := TX5) (N := 27) hx hb hts hw5 hown hK hP 0 cM_at0 rfl 3 (by decide) k19 (fun _ h9 => h9) rfl dX5_berth_43 ?_
      refine lv_iload hx hb dX5_berth_46 (lv_at hl 5 rfl) ?_
      obtain ⟨c_9, hf⟩ := gi_e hf
      refine va_iald hx hb hK hP 4 0 cM_at4 rfl c_9 dX5_berth_48 ?_
      refine lv_if_le (tgt := 55) hx hb dX5_berth_49 (by decide) (fun c_10 => ?_) (fun c_10 => ?_)
      · replace hf := if_t c_10 hf
        refine lv_aload_n hx hb dX5_berth_55 rfl (lv_at hl 0 rfl) ?_
        refine va_get (D := D) (ci := 5) (v := .ref (A 8)) (C := RX5) (T := TX5) (N := 27) hx hb hts hw5 hown hK hP 0 cM_at0 rfl 7 (by decide) k31 (fun _ h9 => h9) rfl dX5_berth_56 ?_
        refine lv_iload_n hx hb dX5_berth_59 rfl (lv_at hl 1 rfl) ?_
        refine lv_iload hx hb dX5_berth_60 (lv_at hl 5 rfl) ?_
        obtain ⟨c_11, hf⟩ := gi_e hf
        refine va_iast hx hb hK hP hD hS 8 0 cM_at8 rfl c_11 dX5_berth_62 (fun H locs hP hD hS => ?_)
        obtain ⟨h_12, eh_12, hf⟩ := nq_e hf
        rw [cM_su8, ← eh_12] at hP hD
        refine lv_aload_n hx hb dX5_berth_63 rfl (lv_at hl 0 rfl) ?_
        obtain ⟨a_13, ha_13, hf⟩ := bd_e hf
        refine Ct.callV (As := []) (rest := []) (st1 := [.int a_13]) (c_X5_canRiseOnes l D cI A h_12 a_13 ha_13) hx hb hml hown hts (cwV 0 hts gX5_berth_X5_canRiseOnes rfl rfl rfl hd_X5_canRiseOnes ⟨Nat.le_of_ble_eq_true rfl, Nat.le_of_ble_eq_true rfl⟩) (va_recv hK hP (ci := 5) (q0 := 0) rfl cM_at0) (Ln.id rfl) hA hK hP hD hS rfl hl.1 rfl rfl (Nat.le_of_ble_eq_true rfl) dX5_berth_64 (fun H locs hP hD hS => ?_)
        refine lv_istore (lv' := [(6, .int a_13), (0, .ref (A 0)), (1, .int p1), (2, .int v_4), (3, .int q33.1), (4, .int q33.2.1), (5, .int q33.2.2.1)]) hx hb dX5_berth_67 hl (by decide) rfl (fun ls hl => ?_)
        refine lv_iload hx hb dX5_berth_69 (lv_at hl 0 rfl) ?_
        refine lv_iload hx hb dX5_berth_71 (lv_at hl 5 rfl) ?_
        refine lv_icmp_gt (tgt := 79) hx hb dX5_berth_73 (by decide) (fun c_14 => ?_) (fun c_14 => ?_)
        · replace hf := if_t c_14 hf
          refine lv_iload hx hb dX5_berth_79 (lv_at hl 6 rfl) ?_
          refine lv_istore_n (lv' := [(3, .int q33.2.2.1), (6, .int a_13), (0, .ref (A 0)), (1, .int p1), (2, .int v_4), (4, .int q33.2.1), (5, .int q33.2.2.1)]) hx hb dX5_berth_81 rfl hl (by decide) rfl (fun ls hl => ?_)
          refine lv_iload hx hb dX5_berth_82 (lv_at hl 1 rfl) ?_
          refine lv_istore (lv' := [(4, .int a_13), (3, .int q33.2.2.1), (6, .int a_13), (0, .ref (A 0)), (1, .int p1), (2, .int v_4), (5, .int q33.2.2.1)]) hx hb dX5_berth_84 hl (by decide) rfl (fun ls hl => ?_)
          obtain ⟨v_15, ev_15, hf⟩ := nq_e hf
          refine lv_iinc (v := v_15) (lv' := [(5, .int v_15), (4, .int a_13), (3, .int q33.2.2.1), (6, .int a_13), (0, .ref (A 0)), (1, .int p1), (2, .int v_4)]) hx hb dX5_berth_86 hl (k := 6) rfl (by rw [ev_15]; rfl) (by decide) rfl (fun ls hl => ?_)
          refine lv_goto (tgt := 33) hx hb dX5_berth_89 (by decide) ?_
          exact ih33 (q33.2.2.1, a_13, v_15, h_12) hf H locs ls hP hD hS (lv_sub hl [4, 5, 6, 2, 1, 0] rfl)
        · replace hf := if_f c_14 hf
          refine lv_goto (tgt := 86) hx hb dX5_berth_76 (by decide) ?_
          obtain ⟨v_16, ev_16, hf⟩ := nq_e hf
          refine lv_iinc (v := v_16) (lv' := [(5, .int v_16), (6, .int a_13), (0, .ref (A 0)), (1, .int p1), (2, .int v_4), (3, .int q33.1), (4, .int q33.2.1)]) hx hb dX5_berth_86 hl (k := 6) rfl (by rw [ev_16]; rfl) (by decide) rfl (fun ls hl => ?_)
          refine lv_goto (tgt := 33) hx hb dX5_berth_89 (by decide) ?_
          exact ih33 (q33.1, q33.2.1, v_16, h_12) hf H locs ls hP hD hS (lv_sub hl [2, 3, 4, 5, 6, 0] rfl)
      · replace hf := if_f c_10 hf
        refine lv_goto (tgt := 86) hx hb dX5_berth_52 (by decide) ?_
        obtain ⟨v_17, ev_17, hf⟩ := nq_e hf
        refine lv_iinc (v := v_17) (lv' := [(5, .int v_17), (0, .ref (A 0)), (1, .int p1), (2, .int v_4), (3, .int q33.1), (4, .int q33.2.1)]) hx hb dX5_berth_86 hl (k := 5) rfl (by rw [ev_17]; rfl) (by decide) rfl (fun ls hl => ?_)
        refine lv_goto (tgt := 33) hx hb dX5_berth_89 (by decide) ?_
        exact ih33 (q33.1, q33.2.1, v_17, q33.2.2.2) hf H locs ls hP hD hS (lv_sub hl [1, 2, 3, 4, 5, 0] rfl)
  · replace hf := if_t c_2 hf
    refine lv_aload_n hx hb dX5_berth_8 rfl (lv_at hl 0 rfl) ?_
    refine lv_iconst (v := -1) hx hb dX5_berth_9 (by decide) ?_
    obtain ⟨a_18, ha_18, hf⟩ := bd_e hf
    refine Ct.callV (As := [.int (-1 : Int32)]) (rest := []) (st1 := [.int a_18.1]) (c_X5_no l D cI A M (-1 : Int32) a_18 ha_18) hx hb hml hown hts (cwV 1 hts gX5_berth_X5_no rfl rfl rfl hd_X5_no ⟨Nat.le_of_ble_eq_true rfl, Nat.le_of_ble_eq_true rfl⟩) (va_recv hK hP (ci := 5) (q0 := 0) rfl cM_at0) (Ln.id rfl) hA hK hP hD hS rfl hl.1 rfl rfl (Nat.le_of_ble_eq_true rfl) dX5_berth_10 (fun H locs hP hD hS => ?_)
    replace hP : va_P D vwCl (cM cI A a_18.2) H := hP
    replace hD : va_D AA (cM cI A a_18.2) := hD
    exact hend (a_18.1, a_18.2) H locs _ _ hf hP hS dX5_berth_13

def rm_X5_rise : Room := { frames := 5, cells := 0, slots := 0, locals := 112 }
theorem hd_X5_rise : yX5_rise.cls = RX5 ∧ yX5_rise.cls ≠ "java/lang/invoke/MethodHandle" ∧ yX5_rise.cls ≠ "java/lang/invoke/VarHandle" ∧ (parseMethodDescriptor yX5_rise.desc).map (fun d => d.parameters.length) = some 0 := by decide +kernel
set_option maxRecDepth 100000 in
set_option maxHeartbeats 4000000 in
theorem c_X5_rise (l : Launch) (D : va_G) (cI : ClassId) (A : Nat → Nat) (M : St) (r : Int32) (hf : f_X5_rise M = some r) : Ct l yX5_rise wsX5_rise rm_X5_rise D cI (cM cI A M) (cM cI A M) [.ref (A 0)] (some (.int r)) := by
  unfold f_X5_rise at hf
  refine Ct.ofI (cc := cX5_rise) (maxL := 1) (by decide +kernel) rfl (Nat.le_of_ble_eq_true rfl) ?_
  intro p e s m args below meth c AA Q H locs ls hx hb hml hown hts hA hK hP hD hS hl hend0
  have hend : ∀ (r1 : Int32) (H : Heap) (locs : List Loc) (pc : Nat) (ls : Array Slot), some r1 = some r → va_P D vwCl (cM cI A M) H → va_S AA s.heap H locs → decode cX5_rise pc = .ok (.ireturn, 1) → W p l e rm_X5_rise s m args below meth c H locs 0 0 Q (F0 m pc ls [.int r1]) := by
    intro r1 H locs pc ls e1 hP hS hd; cases e1; exact hend0 H locs pc ls hP hS hd
  clear hend0
  replace hl : lv_has ls 1 [(0, .ref (A 0))] := hl
  refine lv_aload_n hx hb dX5_rise_0 rfl (lv_at hl 0 rfl) ?_
  obtain ⟨a_1, ha_1, hf⟩ := bd_e hf
  refine Ct.callV (As := []) (rest := []) (st1 := [.int a_1]) (c_X5_canRiseOnes l D cI A M a_1 ha_1) hx hb hml hown hts (cwV 0 hts gX5_rise_X5_canRiseOnes rfl rfl rfl hd_X5_canRiseOnes ⟨Nat.le_of_ble_eq_true rfl, Nat.le_of_ble_eq_true rfl⟩) (va_recv hK hP (ci := 5) (q0 := 0) rfl cM_at0) (Ln.id rfl) hA hK hP hD hS rfl hl.1 rfl rfl (Nat.le_of_ble_eq_true rfl) dX5_rise_1 (fun H locs hP hD hS => ?_)
  exact hend a_1 H locs _ _ hf hP hS dX5_rise_4

def rm_X5_riseDealing : Room := { frames := 5, cells := 0, slots := 0, locals := 112 }
theorem hd_X5_riseDealing : yX5_riseDealing.cls = RX5 ∧ yX5_riseDealing.cls ≠ "java/lang/invoke/MethodHandle" ∧ yX5_riseDealing.cls ≠ "java/lang/invoke/VarHandle" ∧ (parseMethodDescriptor yX5_riseDealing.desc).map (fun d => d.parameters.length) = some 2 := by decide +kernel
set_option maxRecDepth 100000 in
set_option maxHeartbeats 4000000 in
theorem c_X5_riseDealing (l : Launch) (D : va_G) (cI : ClassId) (A : Nat → Nat) (M : St) (p1 : Int32) (p2 : Int32) (r : Int32 × St) (hf : f_X5_riseDealing M p1 p2 = some r) : Ct l yX5_riseDealing wsX5_riseDealing rm_X5_riseDealing D cI (cM cI A M) (cM cI A r.2) [.ref (A 0), .int p1, .int p2] (some (.int r.1)) := by
  unfold f_X5_riseDealing at hf
  refine Ct.ofI (cc := cX5_riseDealing) (maxL := 5) (by decide +kernel) rfl (Nat.le_of_ble_eq_true rfl) ?_
  intro p e s m args below meth c AA Q H locs ls hx hb hml hown hts hA hK hP hD hS hl hend0
  have hend : ∀ (r1 : Int32 × St) (H : Heap) (locs : List Loc) (pc : Nat) (ls : Array Slot), some r1 = some r → va_P D vwCl (cM cI A r1.2) H → va_S AA s.heap H locs → decode cX5_riseDealing pc = .ok (.ireturn, 1) → W p l e rm_X5_riseDealing s m args below meth c H locs 0 0 Q (F0 m pc ls [.int r1.1]) := by
    intro r1 H locs pc ls e1 hP hS hd; cases e1; exact hend0 H locs pc ls hP hS hd
  clear hend0
  have hw5 : ∀ w ∈ wsX50, w ∈ wsX5_riseDealing := by decide +kernel
  have k31 := hts (.fieldLink RX5 31 "AnchorsForConfessionModel" "aboard" "[I") (by decide +kernel)
  replace hl : lv_has ls 5 [(0, .ref (A 0)), (1, .int p1), (2, .int p2)] := hl
  refine lv_aload_n hx hb dX5_riseDealing_0 rfl (lv_at hl 0 rfl) ?_
  refine va_get (D := D) (ci := 5) (v := .ref (A 8)) (C := RX5) (T := TX5) (N := 27) hx hb hts hw5 hown hK hP 0 cM_at0 rfl 7 (by decide) k31 (fun _ h9 => h9) rfl dX5_riseDealing_1 ?_
  refine lv_iload_n hx hb dX5_riseDealing_4 rfl (lv_at hl 1 rfl) ?_
  obtain ⟨c_1, hf⟩ := gi_e hf
  refine va_iald hx hb hK hP 8 0 cM_at8 rfl c_1 dX5_riseDealing_5 ?_
  refine lv_topi (fun v_2 ev_2 => ?_)
  replace hf := nm_at ev_2 hf
  refine lv_istore_n (lv' := [(3, .int v_2), (0, .ref (A 0)), (1, .int p1), (2, .int p2)]) hx hb dX5_riseDealing_6 rfl hl (by decide) rfl (fun ls hl => ?_)
  refine lv_aload_n hx hb dX5_riseDealing_7 rfl (lv_at hl 1 rfl) ?_
  refine va_get (D := D) (ci := 5) (v := .ref (A 8)) (C := RX5) (T := TX5) (N := 27) hx hb hts hw5 hown hK hP 0 cM_at0 rfl 7 (by decide) k31 (fun _ h9 => h9) rfl dX5_riseDealing_8 ?_
  refine lv_iload_n hx hb dX5_riseDealing_11 rfl (lv_at hl 2 rfl) ?_
  refine lv_aload_n hx hb dX5_riseDealing_12 rfl (lv_at hl 1 rfl) ?_
  refine va_get (D := D) (ci := 5) (v := .ref (A 8)) (C := RX5) (T := TX5) (N := 27) hx hb hts hw5 hown hK hP 0 cM_at0 rfl 7 (by decide) k31 (fun _ h9 => h9) rfl dX5_riseDealing_13 ?_
  refine lv_iload_n hx hb dX5_riseDealing_16 rfl (lv_at hl 3 rfl) ?_
  obtain ⟨c_3, hf⟩ := gi_e hf
  refine va_iald hx hb hK hP 8 0 cM_at8 rfl c_3 dX5_riseDealing_17 ?_
  obtain ⟨c_4, hf⟩ := gi_e hf
  refine va_iast hx hb hK hP hD hS 8 0 cM_at8 rfl c_4 dX5_riseDealing_18 (fun H locs hP hD hS => ?_)
  obtain ⟨h_5, eh_5, hf⟩ := nq_e hf
  rw [cM_su8, ← eh_5] at hP hD
  refine lv_aload_n hx hb dX5_riseDealing_19 rfl (lv_at hl 1 rfl) ?_
  refine va_get (D := D) (ci := 5) (v := .ref (A 8)) (C := RX5) (T := TX5) (N := 27) hx hb hts hw5 hown hK hP 0 cM_at0 rfl 7 (by decide) k31 (fun _ h9 => h9) rfl dX5_riseDealing_20 ?_
  refine lv_iload_n hx hb dX5_riseDealing_23 rfl (lv_at hl 3 rfl) ?_
  refine lv_iload_n hx hb dX5_riseDealing_24 rfl (lv_at hl 0 rfl) ?_
  obtain ⟨c_6, hf⟩ := gi_e hf
  refine va_iast hx hb hK hP hD hS 8 0 cM_at8 rfl c_6 dX5_riseDealing_25 (fun H locs hP hD hS => ?_)
  obtain ⟨h_7, eh_7, hf⟩ := nq_e hf
  rw [cM_su8, ← eh_7] at hP hD
  refine lv_aload_n hx hb dX5_riseDealing_26 rfl (lv_at hl 1 rfl) ?_
  obtain ⟨a_8, ha_8, hf⟩ := bd_e hf
  refine Ct.callV (As := []) (rest := []) (st1 := [.int a_8]) (c_X5_canRiseOnes l D cI A h_7 a_8 ha_8) hx hb hml hown hts (cwV 0 hts gX5_riseDealing_X5_canRiseOnes rfl rfl rfl hd_X5_canRiseOnes ⟨Nat.le_of_ble_eq_true rfl, Nat.le_of_ble_eq_true rfl⟩) (va_recv hK hP (ci := 5) (q0 := 0) rfl cM_at0) (Ln.id rfl) hA hK hP hD hS rfl hl.1 rfl rfl (Nat.le_of_ble_eq_true rfl) dX5_riseDealing_27 (fun H locs hP hD hS => ?_)
  refine lv_istore (lv' := [(4, .int a_8), (3, .int v_2), (0, .ref (A 0)), (1, .int p1), (2, .int p2)]) hx hb dX5_riseDealing_30 hl (by decide) rfl (fun ls hl => ?_)
  refine lv_aload_n hx hb dX5_riseDealing_32 rfl (lv_at hl 2 rfl) ?_
  refine va_get (D := D) (ci := 5) (v := .ref (A 8)) (C := RX5) (T := TX5) (N := 27) hx hb hts hw5 hown hK hP 0 cM_at0 rfl 7 (by decide) k31 (fun _ h9 => h9) rfl dX5_riseDealing_33 ?_
  refine lv_iload_n hx hb dX5_riseDealing_36 rfl (lv_at hl 4 rfl) ?_
  refine lv_aload_n hx hb dX5_riseDealing_37 rfl (lv_at hl 2 rfl) ?_
  refine va_get (D := D) (ci := 5) (v := .ref (A 8)) (C := RX5) (T := TX5) (N := 27) hx hb hts hw5 hown hK hP 0 cM_at0 rfl 7 (by decide) k31 (fun _ h9 => h9) rfl dX5_riseDealing_38 ?_
  refine lv_iload_n hx hb dX5_riseDealing_41 rfl (lv_at hl 3 rfl) ?_
  obtain ⟨c_9, hf⟩ := gi_e hf
  refine va_iald hx hb hK hP 8 0 cM_at8 rfl c_9 dX5_riseDealing_42 ?_
  obtain ⟨c_10, hf⟩ := gi_e hf
  refine va_iast hx hb hK hP hD hS 8 0 cM_at8 rfl c_10 dX5_riseDealing_43 (fun H locs hP hD hS => ?_)
  obtain ⟨h_11, eh_11, hf⟩ := nq_e hf
  rw [cM_su8, ← eh_11] at hP hD
  refine lv_aload_n hx hb dX5_riseDealing_44 rfl (lv_at hl 2 rfl) ?_
  refine va_get (D := D) (ci := 5) (v := .ref (A 8)) (C := RX5) (T := TX5) (N := 27) hx hb hts hw5 hown hK hP 0 cM_at0 rfl 7 (by decide) k31 (fun _ h9 => h9) rfl dX5_riseDealing_45 ?_
  refine lv_iload_n hx hb dX5_riseDealing_48 rfl (lv_at hl 3 rfl) ?_
  refine lv_iload_n hx hb dX5_riseDealing_49 rfl (lv_at hl 1 rfl) ?_
  obtain ⟨c_12, hf⟩ := gi_e hf
  refine va_iast hx hb hK hP hD hS 8 0 cM_at8 rfl c_12 dX5_riseDealing_50 (fun H locs hP hD hS => ?_)
  obtain ⟨h_13, eh_13, hf⟩ := nq_e hf
  rw [cM_su8, ← eh_13] at hP hD
  refine lv_iload hx hb dX5_riseDealing_51 (lv_at hl 0 rfl) ?_
  exact hend (a_8, h_13) H locs _ _ hf hP hS dX5_riseDealing_53

def rm_X5_deal : Room := { frames := 6, cells := 0, slots := 0, locals := 136 }
theorem hd_X5_deal : yX5_deal.cls = RX5 ∧ yX5_deal.cls ≠ "java/lang/invoke/MethodHandle" ∧ yX5_deal.cls ≠ "java/lang/invoke/VarHandle" ∧ (parseMethodDescriptor yX5_deal.desc).map (fun d => d.parameters.length) = some 0 := by decide +kernel
set_option maxRecDepth 100000 in
set_option maxHeartbeats 4000000 in
theorem c_X5_deal (l : Launch) (D : va_G) (cI : ClassId) (A : Nat → Nat) (M : St) (r : Int32 × St) (hf : f_X5_deal M = some r) : Ct l yX5_deal wsX5_deal rm_X5_deal D cI (cM cI A M) (cM cI A r.2) [.ref (A 0)] (some (.int r.1)) := by
  unfold f_X5_deal at hf
  refine Ct.ofI (cc := cX5_deal) (maxL := 6) (by decide +kernel) rfl (Nat.le_of_ble_eq_true rfl) ?_
  intro p e s m args below meth c AA Q H locs ls hx hb hml hown hts hA hK hP hD hS hl hend0
  have hend : ∀ (r1 : Int32 × St) (H : Heap) (locs : List Loc) (pc : Nat) (ls : Array Slot), some r1 = some r → va_P D vwCl (cM cI A r1.2) H → va_S AA s.heap H locs → decode cX5_deal pc = .ok (.ireturn, 1) → W p l e rm_X5_deal s m args below meth c H locs 0 0 Q (F0 m pc ls [.int r1.1]) := by
    intro r1 H locs pc ls e1 hP hS hd; cases e1; exact hend0 H locs pc ls hP hS hd
  clear hend0
  have hw5 : ∀ w ∈ wsX50, w ∈ wsX5_deal := by decide +kernel
  have k31 := hts (.fieldLink RX5 31 "AnchorsForConfessionModel" "aboard" "[I") (by decide +kernel)
  have k65 := hts (.fieldLink RX5 65 "AnchorsForConfessionModel" "men" "I") (by decide +kernel)
  replace hl : lv_has ls 6 [(0, .ref (A 0))] := hl
  refine lv_bipush (v := -9) hx hb dX5_deal_0 (by decide +kernel) ?_
  refine lv_istore_n (lv' := [(1, .int (-9 : Int32)), (0, .ref (A 0))]) hx hb dX5_deal_2 rfl hl (by decide) rfl (fun ls hl => ?_)
  refine lv_aload_n hx hb dX5_deal_3 rfl (lv_at hl 1 rfl) ?_
  obtain ⟨a_1, ha_1, hf⟩ := bd_e hf
  refine Ct.callV (As := []) (rest := []) (st1 := [.int a_1]) (c_X5_canRiseOnes l D cI A M a_1 ha_1) hx hb hml hown hts (cwV 0 hts gX5_deal_X5_canRiseOnes rfl rfl rfl hd_X5_canRiseOnes ⟨Nat.le_of_ble_eq_true rfl, Nat.le_of_ble_eq_true rfl⟩) (va_recv hK hP (ci := 5) (q0 := 0) rfl cM_at0) (Ln.id rfl) hA hK hP hD hS rfl hl.1 rfl rfl (Nat.le_of_ble_eq_true rfl) dX5_deal_4 (fun H locs hP hD hS => ?_)
  refine lv_istore_n (lv' := [(2, .int a_1), (1, .int (-9 : Int32)), (0, .ref (A 0))]) hx hb dX5_deal_7 rfl hl (by decide) rfl (fun ls hl => ?_)
  refine lv_iconst (v := 0) hx hb dX5_deal_8 (by decide) ?_
  refine lv_istore_n (lv' := [(3, .int (0 : Int32)), (2, .int a_1), (1, .int (-9 : Int32)), (0, .ref (A 0))]) hx hb dX5_deal_9 rfl hl (by decide) rfl (fun ls hl => ?_)
  refine lp_ind (P := fun (q10 : Int32 × Int32 × Int32 × St) => ∀ (H : Heap) (locs : List Loc) (ls : Array Slot), va_P D vwCl (cM cI A q10.2.2.2) H → va_D AA (cM cI A q10.2.2.2) → va_S AA s.heap H locs → lv_has ls 6 [(0, .ref (A 0)), (1, .int q10.1), (2, .int q10.2.1), (3, .int q10.2.2.1)] → W p l e rm_X5_deal s m args below meth c H locs 0 0 Q (F0 m 10 ls [])) hf ?_ H locs ls hP hD hS (lv_sub hl [3, 2, 1, 0] rfl)
  clear hf hP hD hS hl
  intro nx10 ih10 q10 hf H locs ls hP hD hS hl
  refine lv_iload_n hx hb dX5_deal_10 rfl (lv_at hl 3 rfl) ?_
  refine lv_aload_n hx hb dX5_deal_11 rfl (lv_at hl 0 rfl) ?_
  refine va_get (D := D) (ci := 5) (v := .int (q10.2.2.2 16 1)) (C := RX5) (T := TX5) (N := 27) hx hb hts hw5 hown hK hP 0 cM_at0 rfl 9 (by decide) k65 (fun _ h9 => h9) rfl dX5_deal_12 ?_
  refine lv_icmp_ge (tgt := 94) hx hb dX5_deal_15 (by decide) (fun c_2 => ?_) (fun c_2 => ?_)
  · replace hf := if_t c_2 hf
    refine lv_iload_n hx hb dX5_deal_94 rfl (lv_at hl 1 rfl) ?_
    exact hend (q10.1, q10.2.2.2) H locs _ _ hf hP hS dX5_deal_95
  · replace hf := if_f c_2 hf
    refine lv_iload_n hx hb dX5_deal_18 rfl (lv_at hl 3 rfl) ?_
    refine lv_iconst (v := 1) hx hb dX5_deal_19 (by decide) ?_
    refine lv_iadd hx hb dX5_deal_20 ?_
    refine lv_topi (fun v_3 ev_3 => ?_)
    replace hf := nm_at ev_3 hf
    refine lv_istore (lv' := [(4, .int v_3), (0, .ref (A 0)), (1, .int q10.1), (2, .int q10.2.1), (3, .int q10.2.2.1)]) hx hb dX5_deal_21 hl (by decide) rfl (fun ls hl => ?_)
    refine lp_ind (P := fun (q23 : Int32 × Int32 × Int32 × St) => ∀ (H : Heap) (locs : List Loc) (ls : Array Slot), va_P D vwCl (cM cI A q23.2.2.2) H → va_D AA (cM cI A q23.2.2.2) → va_S AA s.heap H locs → lv_has ls 6 [(0, .ref (A 0)), (1, .int q23.1), (2, .int q23.2.1), (3, .int q10.2.2.1), (4, .int q23.2.2.1)] → W p l e rm_X5_deal s m args below meth c H locs 0 0 Q (F0 m 23 ls [])) hf ?_ H locs ls hP hD hS (lv_sub hl [1, 2, 3, 4, 0] rfl)
    clear hf hP hD hS hl
    intro nx23 ih23 q23 hf H locs ls hP hD hS hl
    refine lv_iload hx hb dX5_deal_23 (lv_at hl 4 rfl) ?_
    refine lv_aload_n hx hb dX5_deal_25 rfl (lv_at hl 0 rfl) ?_
    refine va_get (D := D) (ci := 5) (v := .int (q23.2.2.2 16 1)) (C := RX5) (T := TX5) (N := 27) hx hb hts hw5 hown hK hP 0 cM_at0 rfl 9 (by decide) k65 (fun _ h9 => h9) rfl dX5_deal_26 ?_
    refine lv_icmp_ge (tgt := 88) hx hb dX5_deal_29 (by decide) (fun c_4 => ?_) (fun c_4 => ?_)
    · replace hf := if_t c_4 hf
      obtain ⟨v_5, ev_5, hf⟩ := nq_e hf
      refine lv_iinc (v := v_5) (lv' := [(3, .int v_5), (0, .ref (A 0)), (1, .int q23.1), (2, .int q23.2.1), (4, .int q23.2.2.1)]) hx hb dX5_deal_88 hl (k := 3) rfl (by rw [ev_5]; rfl) (by decide) rfl (fun ls hl => ?_)
      refine lv_goto (tgt := 10) hx hb dX5_deal_91 (by decide) ?_
      exact ih10 (q23.1, q23.2.1, v_5, q23.2.2.2) hf H locs ls hP hD hS (lv_sub hl [1, 2, 3, 0] rfl)
    · replace hf := if_f c_4 hf
      refine lv_aload_n hx hb dX5_deal_32 rfl (lv_at hl 0 rfl) ?_
      refine va_get (D := D) (ci := 5) (v := .ref (A 8)) (C := RX5) (T := TX5) (N := 27) hx hb hts hw5 hown hK hP 0 cM_at0 rfl 7 (by decide) k31 (fun _ h9 => h9) rfl dX5_deal_33 ?_
      refine lv_iload_n hx hb dX5_deal_36 rfl (lv_at hl 3 rfl) ?_
      obtain ⟨c_6, hf⟩ := gi_e hf
      refine va_iald hx hb hK hP 8 0 cM_at8 rfl c_6 dX5_deal_37 ?_
      refine lv_aload_n hx hb dX5_deal_38 rfl (lv_at hl 0 rfl) ?_
      refine va_get (D := D) (ci := 5) (v := .ref (A 8)) (C := RX5) (T := TX5) (N := 27) hx hb hts hw5 hown hK hP 0 cM_at0 rfl 7 (by decide) k31 (fun _ h9 => h9) rfl dX5_deal_39 ?_
      refine lv_iload hx hb dX5_deal_42 (lv_at hl 4 rfl) ?_
      obtain ⟨c_7, hf⟩ := gi_e hf
      refine va_iald hx hb hK hP 8 0 cM_at8 rfl c_7 dX5_deal_44 ?_
      refine lv_icmp_ne (tgt := 53) hx hb dX5_deal_45 (by decide) (fun c_8 => ?_) (fun c_8 => ?_)
      · replace hf := if_f c_8 hf
        refine lv_aload_n hx hb dX5_deal_53 rfl (lv_at hl 0 rfl) ?_
        refine lv_iload_n hx hb dX5_deal_54 rfl (lv_at hl 3 rfl) ?_
        refine lv_iload hx hb dX5_deal_55 (lv_at hl 4 rfl) ?_
        obtain ⟨a_9, ha_9, hf⟩ := bd_e hf
        refine Ct.callV (As := [.int q10.2.2.1, .int q23.2.2.1]) (rest := []) (st1 := [.int a_9.1]) (c_X5_riseDealing l D cI A q23.2.2.2 q10.2.2.1 q23.2.2.1 a_9 ha_9) hx hb hml hown hts (cwV 2 hts gX5_deal_X5_riseDealing rfl rfl rfl hd_X5_riseDealing ⟨Nat.le_of_ble_eq_true rfl, Nat.le_of_ble_eq_true rfl⟩) (va_recv hK hP (ci := 5) (q0 := 0) rfl cM_at0) (Ln.id rfl) hA hK hP hD hS rfl hl.1 rfl rfl (Nat.le_of_ble_eq_true rfl) dX5_deal_57 (fun H locs hP hD hS => ?_)
        replace hP : va_P D vwCl (cM cI A a_9.2) H := hP
        replace hD : va_D AA (cM cI A a_9.2) := hD
        refine lv_istore (lv' := [(5, .int a_9.1), (0, .ref (A 0)), (1, .int q23.1), (2, .int q23.2.1), (3, .int q10.2.2.1), (4, .int q23.2.2.1)]) hx hb dX5_deal_60 hl (by decide) rfl (fun ls hl => ?_)
        refine lv_iload hx hb dX5_deal_62 (lv_at hl 0 rfl) ?_
        refine lv_iload_n hx hb dX5_deal_64 rfl (lv_at hl 3 rfl) ?_
        refine lv_icmp_gt (tgt := 71) hx hb dX5_deal_65 (by decide) (fun c_10 => ?_) (fun c_10 => ?_)
        · replace hf := if_t c_10 hf
          refine lv_bipush (v := 10) hx hb dX5_deal_71 (by decide +kernel) ?_
          refine lv_iload_n hx hb dX5_deal_73 rfl (lv_at hl 4 rfl) ?_
          refine lv_imul hx hb dX5_deal_74 ?_
          refine lv_iload hx hb dX5_deal_75 (lv_at hl 5 rfl) ?_
          refine lv_iadd hx hb dX5_deal_77 ?_
          refine lv_topi (fun v_11 ev_11 => ?_)
          replace hf := nm_at ev_11 hf
          refine lv_istore_n (lv' := [(1, .int v_11), (5, .int a_9.1), (0, .ref (A 0)), (2, .int q23.2.1), (3, .int q10.2.2.1), (4, .int q23.2.2.1)]) hx hb dX5_deal_78 rfl hl (by decide) rfl (fun ls hl => ?_)
          refine lv_iload hx hb dX5_deal_79 (lv_at hl 1 rfl) ?_
          refine lv_istore_n (lv' := [(2, .int a_9.1), (1, .int v_11), (5, .int a_9.1), (0, .ref (A 0)), (3, .int q10.2.2.1), (4, .int q23.2.2.1)]) hx hb dX5_deal_81 rfl hl (by decide) rfl (fun ls hl => ?_)
          obtain ⟨v_12, ev_12, hf⟩ := nq_e hf
          refine lv_iinc (v := v_12) (lv' := [(4, .int v_12), (2, .int a_9.1), (1, .int v_11), (5, .int a_9.1), (0, .ref (A 0)), (3, .int q10.2.2.1)]) hx hb dX5_deal_82 hl (k := 5) rfl (by rw [ev_12]; rfl) (by decide) rfl (fun ls hl => ?_)
          refine lv_goto (tgt := 23) hx hb dX5_deal_85 (by decide) ?_
          exact ih23 (v_11, a_9.1, v_12, a_9.2) hf H locs ls hP hD hS (lv_sub hl [4, 2, 1, 5, 0] rfl)
        · replace hf := if_f c_10 hf
          refine lv_goto (tgt := 82) hx hb dX5_deal_68 (by decide) ?_
          obtain ⟨v_13, ev_13, hf⟩ := nq_e hf
          refine lv_iinc (v := v_13) (lv' := [(4, .int v_13), (5, .int a_9.1), (0, .ref (A 0)), (1, .int q23.1), (2, .int q23.2.1), (3, .int q10.2.2.1)]) hx hb dX5_deal_82 hl (k := 5) rfl (by rw [ev_13]; rfl) (by decide) rfl (fun ls hl => ?_)
          refine lv_goto (tgt := 23) hx hb dX5_deal_85 (by decide) ?_
          exact ih23 (q23.1, q23.2.1, v_13, a_9.2) hf H locs ls hP hD hS (lv_sub hl [2, 3, 4, 5, 0] rfl)
      · replace hf := if_t c_8 hf
        refine lv_bipush (v := -9) hx hb dX5_deal_48 (by decide +kernel) ?_
        refine lv_goto (tgt := 60) hx hb dX5_deal_50 (by decide) ?_
        refine lv_istore (lv' := [(5, .int (-9 : Int32)), (0, .ref (A 0)), (1, .int q23.1), (2, .int q23.2.1), (3, .int q10.2.2.1), (4, .int q23.2.2.1)]) hx hb dX5_deal_60 hl (by decide) rfl (fun ls hl => ?_)
        refine lv_iload hx hb dX5_deal_62 (lv_at hl 0 rfl) ?_
        refine lv_iload_n hx hb dX5_deal_64 rfl (lv_at hl 3 rfl) ?_
        refine lv_icmp_gt (tgt := 71) hx hb dX5_deal_65 (by decide) (fun c_14 => ?_) (fun c_14 => ?_)
        · replace hf := if_t c_14 hf
          refine lv_bipush (v := 10) hx hb dX5_deal_71 (by decide +kernel) ?_
          refine lv_iload_n hx hb dX5_deal_73 rfl (lv_at hl 4 rfl) ?_
          refine lv_imul hx hb dX5_deal_74 ?_
          refine lv_iload hx hb dX5_deal_75 (lv_at hl 5 rfl) ?_
          refine lv_iadd hx hb dX5_deal_77 ?_
          refine lv_topi (fun v_15 ev_15 => ?_)
          replace hf := nm_at ev_15 hf
          refine lv_istore_n (lv' := [(1, .int v_15), (5, .int (-9 : Int32)), (0, .ref (A 0)), (2, .int q23.2.1), (3, .int q10.2.2.1), (4, .int q23.2.2.1)]) hx hb dX5_deal_78 rfl hl (by decide) rfl (fun ls hl => ?_)
          refine lv_iload hx hb dX5_deal_79 (lv_at hl 1 rfl) ?_
          refine lv_istore_n (lv' := [(2, .int (-9 : Int32)), (1, .int v_15), (5, .int (-9 : Int32)), (0, .ref (A 0)), (3, .int q10.2.2.1), (4, .int q23.2.2.1)]) hx hb dX5_deal_81 rfl hl (by decide) rfl (fun ls hl => ?_)
          obtain ⟨v_16, ev_16, hf⟩ := nq_e hf
          refine lv_iinc (v := v_16) (lv' := [(4, .int v_16), (2, .int (-9 : Int32)), (1, .int v_15), (5, .int (-9 : Int32)), (0, .ref (A 0)), (3, .int q10.2.2.1)]) hx hb dX5_deal_82 hl (k := 5) rfl (by rw [ev_16]; rfl) (by decide) rfl (fun ls hl => ?_)
          refine lv_goto (tgt := 23) hx hb dX5_deal_85 (by decide) ?_
          exact ih23 (v_15, (-9 : Int32), v_16, q23.2.2.2) hf H locs ls hP hD hS (lv_sub hl [4, 2, 1, 5, 0] rfl)
        · replace hf := if_f c_14 hf
          refine lv_goto (tgt := 82) hx hb dX5_deal_68 (by decide) ?_
          obtain ⟨v_17, ev_17, hf⟩ := nq_e hf
          refine lv_iinc (v := v_17) (lv' := [(4, .int v_17), (5, .int (-9 : Int32)), (0, .ref (A 0)), (1, .int q23.1), (2, .int q23.2.1), (3, .int q10.2.2.1)]) hx hb dX5_deal_82 hl (k := 5) rfl (by rw [ev_17]; rfl) (by decide) rfl (fun ls hl => ?_)
          refine lv_goto (tgt := 23) hx hb dX5_deal_85 (by decide) ?_
          exact ih23 (q23.1, q23.2.1, v_17, q23.2.2.2) hf H locs ls hP hD hS (lv_sub hl [2, 3, 4, 5, 0] rfl)

def rm_X5_hush : Room := { frames := 4, cells := 0, slots := 0, locals := 90 }
theorem hd_X5_hush : yX5_hush.cls = RX5 ∧ yX5_hush.cls ≠ "java/lang/invoke/MethodHandle" ∧ yX5_hush.cls ≠ "java/lang/invoke/VarHandle" ∧ (parseMethodDescriptor yX5_hush.desc).map (fun d => d.parameters.length) = some 0 := by decide +kernel
set_option maxRecDepth 100000 in
set_option maxHeartbeats 4000000 in
theorem c_X5_hush (l : Launch) (D : va_G) (cI : ClassId) (A : Nat → Nat) (M : St) (r : Int32) (hf : f_X5_hush M = some r) : Ct l yX5_hush wsX5_hush rm_X5_hush D cI (cM cI A M) (cM cI A M) [.ref (A 0)] (some (.int r)) := by
  unfold f_X5_hush at hf
  refine Ct.ofI (cc := cX5_hush) (maxL := 4) (by decide +kernel) rfl (Nat.le_of_ble_eq_true rfl) ?_
  intro p e s m args below meth c AA Q H locs ls hx hb hml hown hts hA hK hP hD hS hl hend0
  have hend : ∀ (r1 : Int32) (H : Heap) (locs : List Loc) (pc : Nat) (ls : Array Slot), some r1 = some r → va_P D vwCl (cM cI A M) H → va_S AA s.heap H locs → decode cX5_hush pc = .ok (.ireturn, 1) → W p l e rm_X5_hush s m args below meth c H locs 0 0 Q (F0 m pc ls [.int r1]) := by
    intro r1 H locs pc ls e1 hP hS hd; cases e1; exact hend0 H locs pc ls hP hS hd
  clear hend0
  have hw5 : ∀ w ∈ wsX50, w ∈ wsX5_hush := by decide +kernel
  have k28 := hts (.fieldLink RX5 28 "AnchorsForConfessionModel" "sins" "[I") (by decide +kernel)
  have k31 := hts (.fieldLink RX5 31 "AnchorsForConfessionModel" "aboard" "[I") (by decide +kernel)
  have k65 := hts (.fieldLink RX5 65 "AnchorsForConfessionModel" "men" "I") (by decide +kernel)
  replace hl : lv_has ls 4 [(0, .ref (A 0))] := hl
  refine lv_iconst (v := 0) hx hb dX5_hush_0 (by decide) ?_
  refine lv_istore_n (lv' := [(1, .int (0 : Int32)), (0, .ref (A 0))]) hx hb dX5_hush_1 rfl hl (by decide) rfl (fun ls hl => ?_)
  refine lv_iconst (v := 0) hx hb dX5_hush_2 (by decide) ?_
  refine lv_istore_n (lv' := [(2, .int (0 : Int32)), (1, .int (0 : Int32)), (0, .ref (A 0))]) hx hb dX5_hush_3 rfl hl (by decide) rfl (fun ls hl => ?_)
  refine lp_ind (P := fun (q4 : Int32 × Int32) => ∀ (H : Heap) (locs : List Loc) (ls : Array Slot), va_P D vwCl (cM cI A M) H → va_D AA (cM cI A M) → va_S AA s.heap H locs → lv_has ls 4 [(0, .ref (A 0)), (1, .int q4.1), (2, .int q4.2)] → W p l e rm_X5_hush s m args below meth c H locs 0 0 Q (F0 m 4 ls [])) hf ?_ H locs ls hP hD hS (lv_sub hl [2, 1, 0] rfl)
  clear hf hP hD hS hl
  intro nx4 ih4 q4 hf H locs ls hP hD hS hl
  refine lv_iload_n hx hb dX5_hush_4 rfl (lv_at hl 2 rfl) ?_
  refine lv_aload_n hx hb dX5_hush_5 rfl (lv_at hl 0 rfl) ?_
  refine va_get (D := D) (ci := 5) (v := .int (M 16 1)) (C := RX5) (T := TX5) (N := 27) hx hb hts hw5 hown hK hP 0 cM_at0 rfl 9 (by decide) k65 (fun _ h9 => h9) rfl dX5_hush_6 ?_
  refine lv_icmp_ge (tgt := 69) hx hb dX5_hush_9 (by decide) (fun c_1 => ?_) (fun c_1 => ?_)
  · replace hf := if_t c_1 hf
    refine lv_iload_n hx hb dX5_hush_69 rfl (lv_at hl 1 rfl) ?_
    exact hend q4.1 H locs _ _ hf hP hS dX5_hush_70
  · replace hf := if_f c_1 hf
    refine lv_aload_n hx hb dX5_hush_12 rfl (lv_at hl 0 rfl) ?_
    refine va_get (D := D) (ci := 5) (v := .ref (A 8)) (C := RX5) (T := TX5) (N := 27) hx hb hts hw5 hown hK hP 0 cM_at0 rfl 7 (by decide) k31 (fun _ h9 => h9) rfl dX5_hush_13 ?_
    refine lv_iload_n hx hb dX5_hush_16 rfl (lv_at hl 2 rfl) ?_
    obtain ⟨c_2, hf⟩ := gi_e hf
    refine va_iald hx hb hK hP 8 0 cM_at8 rfl c_2 dX5_hush_17 ?_
    refine lv_topi (fun v_3 ev_3 => ?_)
    replace hf := nm_at ev_3 hf
    refine lv_istore_n (lv' := [(3, .int v_3), (0, .ref (A 0)), (1, .int q4.1), (2, .int q4.2)]) hx hb dX5_hush_18 rfl hl (by decide) rfl (fun ls hl => ?_)
    refine lv_iload_n hx hb dX5_hush_19 rfl (lv_at hl 2 rfl) ?_
    refine lv_aload_n hx hb dX5_hush_20 rfl (lv_at hl 1 rfl) ?_
    refine lv_iload_n hx hb dX5_hush_21 rfl (lv_at hl 0 rfl) ?_
    obtain ⟨a_4, ha_4, hf⟩ := bd_e hf
    refine Ct.callV (As := [.int v_3]) (rest := [.int q4.1]) (st1 := [.int a_4, .int q4.1]) (c_X5_canRise l D cI A M v_3 a_4 ha_4) hx hb hml hown hts (cwV 1 hts gX5_hush_X5_canRise rfl rfl rfl hd_X5_canRise ⟨Nat.le_of_ble_eq_true rfl, Nat.le_of_ble_eq_true rfl⟩) (va_recv hK hP (ci := 5) (q0 := 0) rfl cM_at0) (Ln.id rfl) hA hK hP hD hS rfl hl.1 rfl rfl (Nat.le_of_ble_eq_true rfl) dX5_hush_22 (fun H locs hP hD hS => ?_)
    refine lv_if_eq (tgt := 60) hx hb dX5_hush_25 (by decide) (fun c_5 => ?_) (fun c_5 => ?_)
    · replace hf := if_t c_5 hf
      refine lv_iconst (v := 0) hx hb dX5_hush_60 (by decide) ?_
      refine lv_ior hx hb dX5_hush_61 ?_
      refine lv_topi (fun v_6 ev_6 => ?_)
      replace hf := nm_at ev_6 hf
      refine lv_istore_n (lv' := [(1, .int v_6), (3, .int v_3), (0, .ref (A 0)), (2, .int q4.2)]) hx hb dX5_hush_62 rfl hl (by decide) rfl (fun ls hl => ?_)
      obtain ⟨v_7, ev_7, hf⟩ := nq_e hf
      refine lv_iinc (v := v_7) (lv' := [(2, .int v_7), (1, .int v_6), (3, .int v_3), (0, .ref (A 0))]) hx hb dX5_hush_63 hl (k := 3) rfl (by rw [ev_7]; rfl) (by decide) rfl (fun ls hl => ?_)
      refine lv_goto (tgt := 4) hx hb dX5_hush_66 (by decide) ?_
      exact ih4 (v_6, v_7) hf H locs ls hP hD hS (lv_sub hl [3, 1, 0] rfl)
    · replace hf := if_f c_5 hf
      refine lv_aload_n hx hb dX5_hush_28 rfl (lv_at hl 1 rfl) ?_
      refine lv_iload_n hx hb dX5_hush_29 rfl (lv_at hl 0 rfl) ?_
      obtain ⟨a_8, ha_8, hf⟩ := bd_e hf
      refine Ct.callV (As := [.int v_3]) (rest := [.int q4.1]) (st1 := [.int a_8, .int q4.1]) (c_X5_pool l D cI A M v_3 a_8 ha_8) hx hb hml hown hts (cwV 1 hts gX5_hush_X5_pool rfl rfl rfl hd_X5_pool ⟨Nat.le_of_ble_eq_true rfl, Nat.le_of_ble_eq_true rfl⟩) (va_recv hK hP (ci := 5) (q0 := 0) rfl cM_at0) (Ln.id rfl) hA hK hP hD hS rfl hl.1 rfl rfl (Nat.le_of_ble_eq_true rfl) dX5_hush_30 (fun H locs hP hD hS => ?_)
      refine lv_aload_n hx hb dX5_hush_33 rfl (lv_at hl 1 rfl) ?_
      refine va_get (D := D) (ci := 5) (v := .ref (A 7)) (C := RX5) (T := TX5) (N := 27) hx hb hts hw5 hown hK hP 0 cM_at0 rfl 6 (by decide) k28 (fun _ h9 => h9) rfl dX5_hush_34 ?_
      refine lv_iload_n hx hb dX5_hush_37 rfl (lv_at hl 3 rfl) ?_
      obtain ⟨c_9, hf⟩ := gi_e hf
      refine va_iald hx hb hK hP 7 0 cM_at7 rfl c_9 dX5_hush_38 ?_
      refine lv_aload_n hx hb dX5_hush_39 rfl (lv_at hl 1 rfl) ?_
      refine lv_iload_n hx hb dX5_hush_40 rfl (lv_at hl 3 rfl) ?_
      obtain ⟨a_10, ha_10, hf⟩ := bd_e hf
      refine Ct.callV (As := [.int q4.2]) (rest := [.int (M 6 (q4.2).toNatClampNeg), .int a_8, .int q4.1]) (st1 := [.int a_10, .int (M 6 (q4.2).toNatClampNeg), .int a_8, .int q4.1]) (c_X5_worth l D cI A M q4.2 a_10 ha_10) hx hb hml hown hts (cwV 1 hts gX5_hush_X5_worth rfl rfl rfl hd_X5_worth ⟨Nat.le_of_ble_eq_true rfl, Nat.le_of_ble_eq_true rfl⟩) (va_recv hK hP (ci := 5) (q0 := 0) rfl cM_at0) (Ln.id rfl) hA hK hP hD hS rfl hl.1 rfl rfl (Nat.le_of_ble_eq_true rfl) dX5_hush_41 (fun H locs hP hD hS => ?_)
      refine lv_imul hx hb dX5_hush_44 ?_
      refine lv_isub hx hb dX5_hush_45 ?_
      refine lv_aload_n hx hb dX5_hush_46 rfl (lv_at hl 1 rfl) ?_
      refine lv_iload_n hx hb dX5_hush_47 rfl (lv_at hl 0 rfl) ?_
      obtain ⟨a_11, ha_11, hf⟩ := bd_e hf
      refine Ct.callV (As := [.int v_3]) (rest := [.int (a_8 - ((M 6 (q4.2).toNatClampNeg) * a_10)), .int q4.1]) (st1 := [.int a_11, .int (a_8 - ((M 6 (q4.2).toNatClampNeg) * a_10)), .int q4.1]) (c_X5_lacks l D cI A M v_3 a_11 ha_11) hx hb hml hown hts (cwV 1 hts gX5_hush_X5_lacks rfl rfl rfl hd_X5_lacks ⟨Nat.le_of_ble_eq_true rfl, Nat.le_of_ble_eq_true rfl⟩) (va_recv hK hP (ci := 5) (q0 := 0) rfl cM_at0) (Ln.id rfl) hA hK hP hD hS rfl hl.1 rfl rfl (Nat.le_of_ble_eq_true rfl) dX5_hush_48 (fun H locs hP hD hS => ?_)
      refine lv_icmp_ge (tgt := 60) hx hb dX5_hush_51 (by decide) (fun c_12 => ?_) (fun c_12 => ?_)
      · replace hf := if_t c_12 hf
        refine lv_iconst (v := 0) hx hb dX5_hush_60 (by decide) ?_
        refine lv_ior hx hb dX5_hush_61 ?_
        refine lv_topi (fun v_13 ev_13 => ?_)
        replace hf := nm_at ev_13 hf
        refine lv_istore_n (lv' := [(1, .int v_13), (3, .int v_3), (0, .ref (A 0)), (2, .int q4.2)]) hx hb dX5_hush_62 rfl hl (by decide) rfl (fun ls hl => ?_)
        obtain ⟨v_14, ev_14, hf⟩ := nq_e hf
        refine lv_iinc (v := v_14) (lv' := [(2, .int v_14), (1, .int v_13), (3, .int v_3), (0, .ref (A 0))]) hx hb dX5_hush_63 hl (k := 3) rfl (by rw [ev_14]; rfl) (by decide) rfl (fun ls hl => ?_)
        refine lv_goto (tgt := 4) hx hb dX5_hush_66 (by decide) ?_
        exact ih4 (v_13, v_14) hf H locs ls hP hD hS (lv_sub hl [3, 1, 0] rfl)
      · replace hf := if_f c_12 hf
        refine lv_iconst (v := 1) hx hb dX5_hush_54 (by decide) ?_
        refine lv_iload_n hx hb dX5_hush_55 rfl (lv_at hl 3 rfl) ?_
        refine lv_ishl hx hb dX5_hush_56 ?_
        refine lv_goto (tgt := 61) hx hb dX5_hush_57 (by decide) ?_
        refine lv_ior hx hb dX5_hush_61 ?_
        refine lv_topi (fun v_15 ev_15 => ?_)
        replace hf := nm_at ev_15 hf
        refine lv_istore_n (lv' := [(1, .int v_15), (3, .int v_3), (0, .ref (A 0)), (2, .int q4.2)]) hx hb dX5_hush_62 rfl hl (by decide) rfl (fun ls hl => ?_)
        obtain ⟨v_16, ev_16, hf⟩ := nq_e hf
        refine lv_iinc (v := v_16) (lv' := [(2, .int v_16), (1, .int v_15), (3, .int v_3), (0, .ref (A 0))]) hx hb dX5_hush_63 hl (k := 3) rfl (by rw [ev_16]; rfl) (by decide) rfl (fun ls hl => ?_)
        refine lv_goto (tgt := 4) hx hb dX5_hush_66 (by decide) ?_
        exact ih4 (v_15, v_16) hf H locs ls hP hD hS (lv_sub hl [3, 1, 0] rfl)

def rm_X5_risesBy : Room := { frames := 4, cells := 0, slots := 0, locals := 88 }
theorem hd_X5_risesBy : yX5_risesBy.cls = RX5 ∧ yX5_risesBy.cls ≠ "java/lang/invoke/MethodHandle" ∧ yX5_risesBy.cls ≠ "java/lang/invoke/VarHandle" ∧ (parseMethodDescriptor yX5_risesBy.desc).map (fun d => d.parameters.length) = some 1 := by decide +kernel
set_option maxRecDepth 100000 in
set_option maxHeartbeats 4000000 in
theorem c_X5_risesBy (l : Launch) (D : va_G) (cI : ClassId) (A : Nat → Nat) (M : St) (p1 : Int32) (r : Int32 × St) (hf : f_X5_risesBy M p1 = some r) : Ct l yX5_risesBy wsX5_risesBy rm_X5_risesBy D cI (cM cI A M) (cM cI A r.2) [.ref (A 0), .int p1] (some (.int r.1)) := by
  unfold f_X5_risesBy at hf
  refine Ct.ofI (cc := cX5_risesBy) (maxL := 3) (by decide +kernel) rfl (Nat.le_of_ble_eq_true rfl) ?_
  intro p e s m args below meth c AA Q H locs ls hx hb hml hown hts hA hK hP hD hS hl hend0
  have hend : ∀ (r1 : Int32 × St) (H : Heap) (locs : List Loc) (pc : Nat) (ls : Array Slot), some r1 = some r → va_P D vwCl (cM cI A r1.2) H → va_S AA s.heap H locs → decode cX5_risesBy pc = .ok (.ireturn, 1) → W p l e rm_X5_risesBy s m args below meth c H locs 0 0 Q (F0 m pc ls [.int r1.1]) := by
    intro r1 H locs pc ls e1 hP hS hd; cases e1; exact hend0 H locs pc ls hP hS hd
  clear hend0
  replace hl : lv_has ls 3 [(0, .ref (A 0)), (1, .int p1)] := hl
  refine lv_aload_n hx hb dX5_risesBy_0 rfl (lv_at hl 0 rfl) ?_
  obtain ⟨a_1, ha_1, hf⟩ := bd_e hf
  refine Ct.callV (As := []) (rest := []) (st1 := []) (c_X5_thinks l D cI A M a_1 ha_1) hx hb hml hown hts (cwV 0 hts gX5_risesBy_X5_thinks rfl rfl rfl hd_X5_thinks ⟨Nat.le_of_ble_eq_true rfl, Nat.le_of_ble_eq_true rfl⟩) (va_recv hK hP (ci := 5) (q0 := 0) rfl cM_at0) (Ln.id rfl) hA hK hP hD hS rfl hl.1 rfl rfl (Nat.le_of_ble_eq_true rfl) dX5_risesBy_1 (fun H locs hP hD hS => ?_)
  replace hP : va_P D vwCl (cM cI A a_1) H := hP
  replace hD : va_D AA (cM cI A a_1) := hD
  refine lv_aload_n hx hb dX5_risesBy_4 rfl (lv_at hl 0 rfl) ?_
  refine lv_iload_n hx hb dX5_risesBy_5 rfl (lv_at hl 1 rfl) ?_
  obtain ⟨a_2, ha_2, hf⟩ := bd_e hf
  refine Ct.callV (As := [.int p1]) (rest := []) (st1 := [.int a_2.1]) (c_X5_tellsOne l D cI A a_1 p1 a_2 ha_2) hx hb hml hown hts (cwV 1 hts gX5_risesBy_X5_tellsOne rfl rfl rfl hd_X5_tellsOne ⟨Nat.le_of_ble_eq_true rfl, Nat.le_of_ble_eq_true rfl⟩) (va_recv hK hP (ci := 5) (q0 := 0) rfl cM_at0) (Ln.id rfl) hA hK hP hD hS rfl hl.1 rfl rfl (Nat.le_of_ble_eq_true rfl) dX5_risesBy_6 (fun H locs hP hD hS => ?_)
  replace hP : va_P D vwCl (cM cI A a_2.2) H := hP
  replace hD : va_D AA (cM cI A a_2.2) := hD
  refine lv_istore_n (lv' := [(2, .int a_2.1), (0, .ref (A 0)), (1, .int p1)]) hx hb dX5_risesBy_9 rfl hl (by decide) rfl (fun ls hl => ?_)
  refine lv_aload_n hx hb dX5_risesBy_10 rfl (lv_at hl 1 rfl) ?_
  obtain ⟨a_3, ha_3, hf⟩ := bd_e hf
  refine Ct.callV (As := []) (rest := []) (st1 := []) (c_X5_forgets l D cI A a_2.2 a_3 ha_3) hx hb hml hown hts (cwV 0 hts gX5_risesBy_X5_forgets rfl rfl rfl hd_X5_forgets ⟨Nat.le_of_ble_eq_true rfl, Nat.le_of_ble_eq_true rfl⟩) (va_recv hK hP (ci := 5) (q0 := 0) rfl cM_at0) (Ln.id rfl) hA hK hP hD hS rfl hl.1 rfl rfl (Nat.le_of_ble_eq_true rfl) dX5_risesBy_11 (fun H locs hP hD hS => ?_)
  replace hP : va_P D vwCl (cM cI A a_3) H := hP
  replace hD : va_D AA (cM cI A a_3) := hD
  refine lv_iload_n hx hb dX5_risesBy_14 rfl (lv_at hl 0 rfl) ?_
  exact hend (a_2.1, a_3) H locs _ _ hf hP hS dX5_risesBy_15

def rm_X5_loudest : Room := { frames := 5, cells := 0, slots := 0, locals := 110 }
theorem hd_X5_loudest : yX5_loudest.cls = RX5 ∧ yX5_loudest.cls ≠ "java/lang/invoke/MethodHandle" ∧ yX5_loudest.cls ≠ "java/lang/invoke/VarHandle" ∧ (parseMethodDescriptor yX5_loudest.desc).map (fun d => d.parameters.length) = some 1 := by decide +kernel
set_option maxRecDepth 100000 in
set_option maxHeartbeats 4000000 in
theorem c_X5_loudest (l : Launch) (D : va_G) (cI : ClassId) (A : Nat → Nat) (M : St) (p1 : Int32) (r : Int32 × St) (hf : f_X5_loudest M p1 = some r) : Ct l yX5_loudest wsX5_loudest rm_X5_loudest D cI (cM cI A M) (cM cI A r.2) [.ref (A 0), .int p1] (some (.int r.1)) := by
  unfold f_X5_loudest at hf
  refine Ct.ofI (cc := cX5_loudest) (maxL := 6) (by decide +kernel) rfl (Nat.le_of_ble_eq_true rfl) ?_
  intro p e s m args below meth c AA Q H locs ls hx hb hml hown hts hA hK hP hD hS hl hend0
  have hend : ∀ (r1 : Int32 × St) (H : Heap) (locs : List Loc) (pc : Nat) (ls : Array Slot), some r1 = some r → va_P D vwCl (cM cI A r1.2) H → va_S AA s.heap H locs → decode cX5_loudest pc = .ok (.ireturn, 1) → W p l e rm_X5_loudest s m args below meth c H locs 0 0 Q (F0 m pc ls [.int r1.1]) := by
    intro r1 H locs pc ls e1 hP hS hd; cases e1; exact hend0 H locs pc ls hP hS hd
  clear hend0
  have hw5 : ∀ w ∈ wsX50, w ∈ wsX5_loudest := by decide +kernel
  have k65 := hts (.fieldLink RX5 65 "AnchorsForConfessionModel" "men" "I") (by decide +kernel)
  replace hl : lv_has ls 6 [(0, .ref (A 0)), (1, .int p1)] := hl
  refine lv_iload_n hx hb dX5_loudest_0 rfl (lv_at hl 1 rfl) ?_
  refine lv_iconst (v := 0) hx hb dX5_loudest_1 (by decide) ?_
  refine lv_iconst (v := 1) hx hb dX5_loudest_2 (by decide) ?_
  obtain ⟨a_1, ha_1, hf⟩ := bd_e hf
  refine Ct.callS (As := [.int p1, .int (0 : Int32), .int (1 : Int32)]) (rest := []) (st1 := [.int a_1]) (c_X5_isIn l D cI  p1 (0 : Int32) (1 : Int32) a_1 ha_1) hx hb hml hown hts (va_cwS 3 hts gX5_loudest_X5_isIn rfl rfl rfl hd_X5_isIn ⟨Nat.le_of_ble_eq_true rfl, Nat.le_of_ble_eq_true rfl⟩) Ln.nil hA hK hP hD hS rfl hl.1 rfl rfl (Nat.le_of_ble_eq_true rfl) dX5_loudest_3 (fun H locs hP hD hS => ?_)
  refine lv_if_ne (tgt := 16) hx hb dX5_loudest_6 (by decide) (fun c_2 => ?_) (fun c_2 => ?_)
  · replace hf := if_f c_2 hf
    refine lv_bipush (v := -9) hx hb dX5_loudest_16 (by decide +kernel) ?_
    refine lv_istore_n (lv' := [(2, .int (-9 : Int32)), (0, .ref (A 0)), (1, .int p1)]) hx hb dX5_loudest_18 rfl hl (by decide) rfl (fun ls hl => ?_)
    refine lv_bipush (v := -9) hx hb dX5_loudest_19 (by decide +kernel) ?_
    refine lv_istore_n (lv' := [(3, .int (-9 : Int32)), (2, .int (-9 : Int32)), (0, .ref (A 0)), (1, .int p1)]) hx hb dX5_loudest_21 rfl hl (by decide) rfl (fun ls hl => ?_)
    refine lv_iconst (v := 0) hx hb dX5_loudest_22 (by decide) ?_
    refine lv_istore (lv' := [(4, .int (0 : Int32)), (3, .int (-9 : Int32)), (2, .int (-9 : Int32)), (0, .ref (A 0)), (1, .int p1)]) hx hb dX5_loudest_23 hl (by decide) rfl (fun ls hl => ?_)
    refine lp_ind (P := fun (q25 : Int32 × Int32 × Int32 × St) => ∀ (H : Heap) (locs : List Loc) (ls : Array Slot), va_P D vwCl (cM cI A q25.2.2.2) H → va_D AA (cM cI A q25.2.2.2) → va_S AA s.heap H locs → lv_has ls 6 [(0, .ref (A 0)), (1, .int p1), (2, .int q25.1), (3, .int q25.2.1), (4, .int q25.2.2.1)] → W p l e rm_X5_loudest s m args below meth c H locs 0 0 Q (F0 m 25 ls [])) hf ?_ H locs ls hP hD hS (lv_sub hl [3, 4, 2, 1, 0] rfl)
    clear hf hP hD hS hl
    intro nx25 ih25 q25 hf H locs ls hP hD hS hl
    refine lv_iload hx hb dX5_loudest_25 (lv_at hl 4 rfl) ?_
    refine lv_aload_n hx hb dX5_loudest_27 rfl (lv_at hl 0 rfl) ?_
    refine va_get (D := D) (ci := 5) (v := .int (q25.2.2.2 16 1)) (C := RX5) (T := TX5) (N := 27) hx hb hts hw5 hown hK hP 0 cM_at0 rfl 9 (by decide) k65 (fun _ h9 => h9) rfl dX5_loudest_28 ?_
    refine lv_icmp_ge (tgt := 77) hx hb dX5_loudest_31 (by decide) (fun c_3 => ?_) (fun c_3 => ?_)
    · replace hf := if_t c_3 hf
      refine lv_iload_n hx hb dX5_loudest_77 rfl (lv_at hl 1 rfl) ?_
      refine lv_if_ne (tgt := 85) hx hb dX5_loudest_78 (by decide) (fun c_4 => ?_) (fun c_4 => ?_)
      · replace hf := if_f c_4 hf
        refine lv_iload_n hx hb dX5_loudest_85 rfl (lv_at hl 3 rfl) ?_
        exact hend (q25.2.1, q25.2.2.2) H locs _ _ hf hP hS dX5_loudest_86
      · replace hf := if_t c_4 hf
        refine lv_iload_n hx hb dX5_loudest_81 rfl (lv_at hl 2 rfl) ?_
        refine lv_goto (tgt := 86) hx hb dX5_loudest_82 (by decide) ?_
        exact hend (q25.1, q25.2.2.2) H locs _ _ hf hP hS dX5_loudest_86
    · replace hf := if_f c_3 hf
      refine lv_aload_n hx hb dX5_loudest_34 rfl (lv_at hl 0 rfl) ?_
      refine lv_iload hx hb dX5_loudest_35 (lv_at hl 4 rfl) ?_
      obtain ⟨a_5, ha_5, hf⟩ := bd_e hf
      refine Ct.callV (As := [.int q25.2.2.1]) (rest := []) (st1 := [.int a_5]) (c_X5_canTell l D cI A q25.2.2.2 q25.2.2.1 a_5 ha_5) hx hb hml hown hts (cwV 1 hts gX5_loudest_X5_canTell rfl rfl rfl hd_X5_canTell ⟨Nat.le_of_ble_eq_true rfl, Nat.le_of_ble_eq_true rfl⟩) (va_recv hK hP (ci := 5) (q0 := 0) rfl cM_at0) (Ln.id rfl) hA hK hP hD hS rfl hl.1 rfl rfl (Nat.le_of_ble_eq_true rfl) dX5_loudest_37 (fun H locs hP hD hS => ?_)
      refine lv_if_eq (tgt := 52) hx hb dX5_loudest_40 (by decide) (fun c_6 => ?_) (fun c_6 => ?_)
      · replace hf := if_t c_6 hf
        refine lv_bipush (v := -9) hx hb dX5_loudest_52 (by decide +kernel) ?_
        refine lv_istore (lv' := [(5, .int (-9 : Int32)), (0, .ref (A 0)), (1, .int p1), (2, .int q25.1), (3, .int q25.2.1), (4, .int q25.2.2.1)]) hx hb dX5_loudest_54 hl (by decide) rfl (fun ls hl => ?_)
        refine lv_iload hx hb dX5_loudest_56 (lv_at hl 0 rfl) ?_
        refine lv_iload_n hx hb dX5_loudest_58 rfl (lv_at hl 4 rfl) ?_
        refine lv_icmp_gt (tgt := 65) hx hb dX5_loudest_59 (by decide) (fun c_7 => ?_) (fun c_7 => ?_)
        · replace hf := if_t c_7 hf
          refine lv_iload hx hb dX5_loudest_65 (lv_at hl 5 rfl) ?_
          refine lv_istore_n (lv' := [(2, .int q25.2.2.1), (5, .int (-9 : Int32)), (0, .ref (A 0)), (1, .int p1), (3, .int q25.2.1), (4, .int q25.2.2.1)]) hx hb dX5_loudest_67 rfl hl (by decide) rfl (fun ls hl => ?_)
          refine lv_iload hx hb dX5_loudest_68 (lv_at hl 1 rfl) ?_
          refine lv_istore_n (lv' := [(3, .int (-9 : Int32)), (2, .int q25.2.2.1), (5, .int (-9 : Int32)), (0, .ref (A 0)), (1, .int p1), (4, .int q25.2.2.1)]) hx hb dX5_loudest_70 rfl hl (by decide) rfl (fun ls hl => ?_)
          obtain ⟨v_8, ev_8, hf⟩ := nq_e hf
          refine lv_iinc (v := v_8) (lv' := [(4, .int v_8), (3, .int (-9 : Int32)), (2, .int q25.2.2.1), (5, .int (-9 : Int32)), (0, .ref (A 0)), (1, .int p1)]) hx hb dX5_loudest_71 hl (k := 5) rfl (by rw [ev_8]; rfl) (by decide) rfl (fun ls hl => ?_)
          refine lv_goto (tgt := 25) hx hb dX5_loudest_74 (by decide) ?_
          exact ih25 (q25.2.2.1, (-9 : Int32), v_8, q25.2.2.2) hf H locs ls hP hD hS (lv_sub hl [4, 5, 2, 1, 0] rfl)
        · replace hf := if_f c_7 hf
          refine lv_goto (tgt := 71) hx hb dX5_loudest_62 (by decide) ?_
          obtain ⟨v_9, ev_9, hf⟩ := nq_e hf
          refine lv_iinc (v := v_9) (lv' := [(4, .int v_9), (5, .int (-9 : Int32)), (0, .ref (A 0)), (1, .int p1), (2, .int q25.1), (3, .int q25.2.1)]) hx hb dX5_loudest_71 hl (k := 5) rfl (by rw [ev_9]; rfl) (by decide) rfl (fun ls hl => ?_)
          refine lv_goto (tgt := 25) hx hb dX5_loudest_74 (by decide) ?_
          exact ih25 (q25.1, q25.2.1, v_9, q25.2.2.2) hf H locs ls hP hD hS (lv_sub hl [2, 3, 4, 5, 0] rfl)
      · replace hf := if_f c_6 hf
        refine lv_aload_n hx hb dX5_loudest_43 rfl (lv_at hl 0 rfl) ?_
        refine lv_iload hx hb dX5_loudest_44 (lv_at hl 4 rfl) ?_
        obtain ⟨a_10, ha_10, hf⟩ := bd_e hf
        refine Ct.callV (As := [.int q25.2.2.1]) (rest := []) (st1 := [.int a_10.1]) (c_X5_risesBy l D cI A q25.2.2.2 q25.2.2.1 a_10 ha_10) hx hb hml hown hts (cwV 1 hts gX5_loudest_X5_risesBy rfl rfl rfl hd_X5_risesBy ⟨Nat.le_of_ble_eq_true rfl, Nat.le_of_ble_eq_true rfl⟩) (va_recv hK hP (ci := 5) (q0 := 0) rfl cM_at0) (Ln.id rfl) hA hK hP hD hS rfl hl.1 rfl rfl (Nat.le_of_ble_eq_true rfl) dX5_loudest_46 (fun H locs hP hD hS => ?_)
        replace hP : va_P D vwCl (cM cI A a_10.2) H := hP
        replace hD : va_D AA (cM cI A a_10.2) := hD
        refine lv_goto (tgt := 54) hx hb dX5_loudest_49 (by decide) ?_
        refine lv_istore (lv' := [(5, .int a_10.1), (0, .ref (A 0)), (1, .int p1), (2, .int q25.1), (3, .int q25.2.1), (4, .int q25.2.2.1)]) hx hb dX5_loudest_54 hl (by decide) rfl (fun ls hl => ?_)
        refine lv_iload hx hb dX5_loudest_56 (lv_at hl 0 rfl) ?_
        refine lv_iload_n hx hb dX5_loudest_58 rfl (lv_at hl 4 rfl) ?_
        refine lv_icmp_gt (tgt := 65) hx hb dX5_loudest_59 (by decide) (fun c_11 => ?_) (fun c_11 => ?_)
        · replace hf := if_t c_11 hf
          refine lv_iload hx hb dX5_loudest_65 (lv_at hl 5 rfl) ?_
          refine lv_istore_n (lv' := [(2, .int q25.2.2.1), (5, .int a_10.1), (0, .ref (A 0)), (1, .int p1), (3, .int q25.2.1), (4, .int q25.2.2.1)]) hx hb dX5_loudest_67 rfl hl (by decide) rfl (fun ls hl => ?_)
          refine lv_iload hx hb dX5_loudest_68 (lv_at hl 1 rfl) ?_
          refine lv_istore_n (lv' := [(3, .int a_10.1), (2, .int q25.2.2.1), (5, .int a_10.1), (0, .ref (A 0)), (1, .int p1), (4, .int q25.2.2.1)]) hx hb dX5_loudest_70 rfl hl (by decide) rfl (fun ls hl => ?_)
          obtain ⟨v_12, ev_12, hf⟩ := nq_e hf
          refine lv_iinc (v := v_12) (lv' := [(4, .int v_12), (3, .int a_10.1), (2, .int q25.2.2.1), (5, .int a_10.1), (0, .ref (A 0)), (1, .int p1)]) hx hb dX5_loudest_71 hl (k := 5) rfl (by rw [ev_12]; rfl) (by decide) rfl (fun ls hl => ?_)
          refine lv_goto (tgt := 25) hx hb dX5_loudest_74 (by decide) ?_
          exact ih25 (q25.2.2.1, a_10.1, v_12, a_10.2) hf H locs ls hP hD hS (lv_sub hl [4, 5, 2, 1, 0] rfl)
        · replace hf := if_f c_11 hf
          refine lv_goto (tgt := 71) hx hb dX5_loudest_62 (by decide) ?_
          obtain ⟨v_13, ev_13, hf⟩ := nq_e hf
          refine lv_iinc (v := v_13) (lv' := [(4, .int v_13), (5, .int a_10.1), (0, .ref (A 0)), (1, .int p1), (2, .int q25.1), (3, .int q25.2.1)]) hx hb dX5_loudest_71 hl (k := 5) rfl (by rw [ev_13]; rfl) (by decide) rfl (fun ls hl => ?_)
          refine lv_goto (tgt := 25) hx hb dX5_loudest_74 (by decide) ?_
          exact ih25 (q25.1, q25.2.1, v_13, a_10.2) hf H locs ls hP hD hS (lv_sub hl [2, 3, 4, 5, 0] rfl)
  · replace hf := if_t c_2 hf
    refine lv_aload_n hx hb dX5_loudest_9 rfl (lv_at hl 0 rfl) ?_
    refine lv_bipush (v := -2) hx hb dX5_loudest_10 (by decide +kernel) ?_
    obtain ⟨a_14, ha_14, hf⟩ := bd_e hf
    refine Ct.callV (As := [.int (-2 : Int32)]) (rest := []) (st1 := [.int a_14.1]) (c_X5_no l D cI A M (-2 : Int32) a_14 ha_14) hx hb hml hown hts (cwV 1 hts gX5_loudest_X5_no rfl rfl rfl hd_X5_no ⟨Nat.le_of_ble_eq_true rfl, Nat.le_of_ble_eq_true rfl⟩) (va_recv hK hP (ci := 5) (q0 := 0) rfl cM_at0) (Ln.id rfl) hA hK hP hD hS rfl hl.1 rfl rfl (Nat.le_of_ble_eq_true rfl) dX5_loudest_12 (fun H locs hP hD hS => ?_)
    replace hP : va_P D vwCl (cM cI A a_14.2) H := hP
    replace hD : va_D AA (cM cI A a_14.2) := hD
    exact hend (a_14.1, a_14.2) H locs _ _ hf hP hS dX5_loudest_15

def rm_X5_spree : Room := { frames := 4, cells := 0, slots := 0, locals := 88 }
theorem hd_X5_spree : yX5_spree.cls = RX5 ∧ yX5_spree.cls ≠ "java/lang/invoke/MethodHandle" ∧ yX5_spree.cls ≠ "java/lang/invoke/VarHandle" ∧ (parseMethodDescriptor yX5_spree.desc).map (fun d => d.parameters.length) = some 1 := by decide +kernel
set_option maxRecDepth 100000 in
set_option maxHeartbeats 4000000 in
theorem c_X5_spree (l : Launch) (D : va_G) (cI : ClassId) (A : Nat → Nat) (M : St) (p1 : Int32) (r : Int32 × St) (hf : f_X5_spree M p1 = some r) : Ct l yX5_spree wsX5_spree rm_X5_spree D cI (cM cI A M) (cM cI A r.2) [.ref (A 0), .int p1] (some (.int r.1)) := by
  unfold f_X5_spree at hf
  refine Ct.ofI (cc := cX5_spree) (maxL := 3) (by decide +kernel) rfl (Nat.le_of_ble_eq_true rfl) ?_
  intro p e s m args below meth c AA Q H locs ls hx hb hml hown hts hA hK hP hD hS hl hend0
  have hend : ∀ (r1 : Int32 × St) (H : Heap) (locs : List Loc) (pc : Nat) (ls : Array Slot), some r1 = some r → va_P D vwCl (cM cI A r1.2) H → va_S AA s.heap H locs → decode cX5_spree pc = .ok (.ireturn, 1) → W p l e rm_X5_spree s m args below meth c H locs 0 0 Q (F0 m pc ls [.int r1.1]) := by
    intro r1 H locs pc ls e1 hP hS hd; cases e1; exact hend0 H locs pc ls hP hS hd
  clear hend0
  have hw5 : ∀ w ∈ wsX50, w ∈ wsX5_spree := by decide +kernel
  have k65 := hts (.fieldLink RX5 65 "AnchorsForConfessionModel" "men" "I") (by decide +kernel)
  have k160 := hts (.fieldLink RX5 160 "AnchorsForConfessionModel" "heard" "I") (by decide +kernel)
  replace hl : lv_has ls 3 [(0, .ref (A 0)), (1, .int p1)] := hl
  refine lv_iload_n hx hb dX5_spree_0 rfl (lv_at hl 1 rfl) ?_
  refine lv_iconst (v := 0) hx hb dX5_spree_1 (by decide) ?_
  refine lv_iconst (v := 1) hx hb dX5_spree_2 (by decide) ?_
  obtain ⟨a_1, ha_1, hf⟩ := bd_e hf
  refine Ct.callS (As := [.int p1, .int (0 : Int32), .int (1 : Int32)]) (rest := []) (st1 := [.int a_1]) (c_X5_isIn l D cI  p1 (0 : Int32) (1 : Int32) a_1 ha_1) hx hb hml hown hts (va_cwS 3 hts gX5_spree_X5_isIn rfl rfl rfl hd_X5_isIn ⟨Nat.le_of_ble_eq_true rfl, Nat.le_of_ble_eq_true rfl⟩) Ln.nil hA hK hP hD hS rfl hl.1 rfl rfl (Nat.le_of_ble_eq_true rfl) dX5_spree_3 (fun H locs hP hD hS => ?_)
  refine lv_if_ne (tgt := 16) hx hb dX5_spree_6 (by decide) (fun c_2 => ?_) (fun c_2 => ?_)
  · replace hf := if_f c_2 hf
    refine lv_aload_n hx hb dX5_spree_16 rfl (lv_at hl 0 rfl) ?_
    obtain ⟨a_3, ha_3, hf⟩ := bd_e hf
    refine Ct.callV (As := []) (rest := []) (st1 := []) (c_X5_thinks l D cI A M a_3 ha_3) hx hb hml hown hts (cwV 0 hts gX5_spree_X5_thinks rfl rfl rfl hd_X5_thinks ⟨Nat.le_of_ble_eq_true rfl, Nat.le_of_ble_eq_true rfl⟩) (va_recv hK hP (ci := 5) (q0 := 0) rfl cM_at0) (Ln.id rfl) hA hK hP hD hS rfl hl.1 rfl rfl (Nat.le_of_ble_eq_true rfl) dX5_spree_17 (fun H locs hP hD hS => ?_)
    replace hP : va_P D vwCl (cM cI A a_3) H := hP
    replace hD : va_D AA (cM cI A a_3) := hD
    refine lv_iconst (v := 0) hx hb dX5_spree_20 (by decide) ?_
    refine lv_istore_n (lv' := [(2, .int (0 : Int32)), (0, .ref (A 0)), (1, .int p1)]) hx hb dX5_spree_21 rfl hl (by decide) rfl (fun ls hl => ?_)
    refine lp_ind (P := fun (q22 : Int32 × St) => ∀ (H : Heap) (locs : List Loc) (ls : Array Slot), va_P D vwCl (cM cI A q22.2) H → va_D AA (cM cI A q22.2) → va_S AA s.heap H locs → lv_has ls 3 [(0, .ref (A 0)), (1, .int p1), (2, .int q22.1)] → W p l e rm_X5_spree s m args below meth c H locs 0 0 Q (F0 m 22 ls [])) hf ?_ H locs ls hP hD hS (lv_sub hl [1, 2, 0] rfl)
    clear hf hP hD hS hl
    intro nx22 ih22 q22 hf H locs ls hP hD hS hl
    refine lv_iload_n hx hb dX5_spree_22 rfl (lv_at hl 2 rfl) ?_
    refine lv_aload_n hx hb dX5_spree_23 rfl (lv_at hl 0 rfl) ?_
    refine va_get (D := D) (ci := 5) (v := .int (q22.2 16 1)) (C := RX5) (T := TX5) (N := 27) hx hb hts hw5 hown hK hP 0 cM_at0 rfl 9 (by decide) k65 (fun _ h9 => h9) rfl dX5_spree_24 ?_
    refine lv_icmp_ge (tgt := 50) hx hb dX5_spree_27 (by decide) (fun c_4 => ?_) (fun c_4 => ?_)
    · replace hf := if_t c_4 hf
      refine lv_iload_n hx hb dX5_spree_50 rfl (lv_at hl 1 rfl) ?_
      refine lv_if_ne (tgt := 64) hx hb dX5_spree_51 (by decide) (fun c_5 => ?_) (fun c_5 => ?_)
      · replace hf := if_f c_5 hf
        refine lv_aload_n hx hb dX5_spree_64 rfl (lv_at hl 0 rfl) ?_
        refine va_get (D := D) (ci := 5) (v := .int (q22.2 16 2)) (C := RX5) (T := TX5) (N := 27) hx hb hts hw5 hown hK hP 0 cM_at0 rfl 10 (by decide) k160 (fun _ h9 => h9) rfl dX5_spree_65 ?_
        refine lv_topi (fun v_6 ev_6 => ?_)
        replace hf := nm_at ev_6 hf
        refine lv_istore_n (lv' := [(2, .int v_6), (0, .ref (A 0)), (1, .int p1)]) hx hb dX5_spree_68 rfl hl (by decide) rfl (fun ls hl => ?_)
        refine lv_aload_n hx hb dX5_spree_69 rfl (lv_at hl 1 rfl) ?_
        obtain ⟨a_7, ha_7, hf⟩ := bd_e hf
        refine Ct.callV (As := []) (rest := []) (st1 := []) (c_X5_forgets l D cI A q22.2 a_7 ha_7) hx hb hml hown hts (cwV 0 hts gX5_spree_X5_forgets rfl rfl rfl hd_X5_forgets ⟨Nat.le_of_ble_eq_true rfl, Nat.le_of_ble_eq_true rfl⟩) (va_recv hK hP (ci := 5) (q0 := 0) rfl cM_at0) (Ln.id rfl) hA hK hP hD hS rfl hl.1 rfl rfl (Nat.le_of_ble_eq_true rfl) dX5_spree_70 (fun H locs hP hD hS => ?_)
        replace hP : va_P D vwCl (cM cI A a_7) H := hP
        replace hD : va_D AA (cM cI A a_7) := hD
        refine lv_iload_n hx hb dX5_spree_73 rfl (lv_at hl 0 rfl) ?_
        exact hend (v_6, a_7) H locs _ _ hf hP hS dX5_spree_74
      · replace hf := if_t c_5 hf
        refine lv_aload_n hx hb dX5_spree_54 rfl (lv_at hl 0 rfl) ?_
        obtain ⟨a_8, ha_8, hf⟩ := bd_e hf
        refine Ct.callV (As := []) (rest := []) (st1 := [.int a_8]) (c_X5_outOnes l D cI A q22.2 a_8 ha_8) hx hb hml hown hts (cwV 0 hts gX5_spree_X5_outOnes rfl rfl rfl hd_X5_outOnes ⟨Nat.le_of_ble_eq_true rfl, Nat.le_of_ble_eq_true rfl⟩) (va_recv hK hP (ci := 5) (q0 := 0) rfl cM_at0) (Ln.id rfl) hA hK hP hD hS rfl hl.1 rfl rfl (Nat.le_of_ble_eq_true rfl) dX5_spree_55 (fun H locs hP hD hS => ?_)
        obtain ⟨a_9, ha_9, hf⟩ := bd_e hf
        refine Ct.callS (As := [.int a_8]) (rest := []) (st1 := [.int a_9]) (c_X5_bits l D cI  a_8 a_9 ha_9) hx hb hml hown hts (va_cwS 1 hts gX5_spree_X5_bits rfl rfl rfl hd_X5_bits ⟨Nat.le_of_ble_eq_true rfl, Nat.le_of_ble_eq_true rfl⟩) Ln.nil hA hK hP hD hS rfl hl.1 rfl rfl (Nat.le_of_ble_eq_true rfl) dX5_spree_58 (fun H locs hP hD hS => ?_)
        refine lv_goto (tgt := 68) hx hb dX5_spree_61 (by decide) ?_
        refine lv_istore_n (lv' := [(2, .int a_9), (0, .ref (A 0)), (1, .int p1)]) hx hb dX5_spree_68 rfl hl (by decide) rfl (fun ls hl => ?_)
        refine lv_aload_n hx hb dX5_spree_69 rfl (lv_at hl 1 rfl) ?_
        obtain ⟨a_10, ha_10, hf⟩ := bd_e hf
        refine Ct.callV (As := []) (rest := []) (st1 := []) (c_X5_forgets l D cI A q22.2 a_10 ha_10) hx hb hml hown hts (cwV 0 hts gX5_spree_X5_forgets rfl rfl rfl hd_X5_forgets ⟨Nat.le_of_ble_eq_true rfl, Nat.le_of_ble_eq_true rfl⟩) (va_recv hK hP (ci := 5) (q0 := 0) rfl cM_at0) (Ln.id rfl) hA hK hP hD hS rfl hl.1 rfl rfl (Nat.le_of_ble_eq_true rfl) dX5_spree_70 (fun H locs hP hD hS => ?_)
        replace hP : va_P D vwCl (cM cI A a_10) H := hP
        replace hD : va_D AA (cM cI A a_10) := hD
        refine lv_iload_n hx hb dX5_spree_73 rfl (lv_at hl 0 rfl) ?_
        exact hend (a_9, a_10) H locs _ _ hf hP hS dX5_spree_74
    · replace hf := if_f c_4 hf
      refine lv_aload_n hx hb dX5_spree_30 rfl (lv_at hl 0 rfl) ?_
      refine lv_iload_n hx hb dX5_spree_31 rfl (lv_at hl 2 rfl) ?_
      obtain ⟨a_11, ha_11, hf⟩ := bd_e hf
      refine Ct.callV (As := [.int q22.1]) (rest := []) (st1 := [.int a_11]) (c_X5_canTell l D cI A q22.2 q22.1 a_11 ha_11) hx hb hml hown hts (cwV 1 hts gX5_spree_X5_canTell rfl rfl rfl hd_X5_canTell ⟨Nat.le_of_ble_eq_true rfl, Nat.le_of_ble_eq_true rfl⟩) (va_recv hK hP (ci := 5) (q0 := 0) rfl cM_at0) (Ln.id rfl) hA hK hP hD hS rfl hl.1 rfl rfl (Nat.le_of_ble_eq_true rfl) dX5_spree_32 (fun H locs hP hD hS => ?_)
      refine lv_if_eq (tgt := 44) hx hb dX5_spree_35 (by decide) (fun c_12 => ?_) (fun c_12 => ?_)
      · replace hf := if_t c_12 hf
        obtain ⟨v_13, ev_13, hf⟩ := nq_e hf
        refine lv_iinc (v := v_13) (lv' := [(2, .int v_13), (0, .ref (A 0)), (1, .int p1)]) hx hb dX5_spree_44 hl (k := 2) rfl (by rw [ev_13]; rfl) (by decide) rfl (fun ls hl => ?_)
        refine lv_goto (tgt := 22) hx hb dX5_spree_47 (by decide) ?_
        exact ih22 (v_13, q22.2) hf H locs ls hP hD hS (lv_sub hl [1, 2, 0] rfl)
      · replace hf := if_f c_12 hf
        refine lv_aload_n hx hb dX5_spree_38 rfl (lv_at hl 0 rfl) ?_
        refine lv_iload_n hx hb dX5_spree_39 rfl (lv_at hl 2 rfl) ?_
        obtain ⟨a_14, ha_14, hf⟩ := bd_e hf
        refine Ct.callV (As := [.int q22.1]) (rest := []) (st1 := [.int a_14.1]) (c_X5_tellsOne l D cI A q22.2 q22.1 a_14 ha_14) hx hb hml hown hts (cwV 1 hts gX5_spree_X5_tellsOne rfl rfl rfl hd_X5_tellsOne ⟨Nat.le_of_ble_eq_true rfl, Nat.le_of_ble_eq_true rfl⟩) (va_recv hK hP (ci := 5) (q0 := 0) rfl cM_at0) (Ln.id rfl) hA hK hP hD hS rfl hl.1 rfl rfl (Nat.le_of_ble_eq_true rfl) dX5_spree_40 (fun H locs hP hD hS => ?_)
        replace hP : va_P D vwCl (cM cI A a_14.2) H := hP
        replace hD : va_D AA (cM cI A a_14.2) := hD
        refine lv_pop hx hb dX5_spree_43 rfl ?_
        obtain ⟨v_15, ev_15, hf⟩ := nq_e hf
        refine lv_iinc (v := v_15) (lv' := [(2, .int v_15), (0, .ref (A 0)), (1, .int p1)]) hx hb dX5_spree_44 hl (k := 2) rfl (by rw [ev_15]; rfl) (by decide) rfl (fun ls hl => ?_)
        refine lv_goto (tgt := 22) hx hb dX5_spree_47 (by decide) ?_
        exact ih22 (v_15, a_14.2) hf H locs ls hP hD hS (lv_sub hl [1, 2, 0] rfl)
  · replace hf := if_t c_2 hf
    refine lv_aload_n hx hb dX5_spree_9 rfl (lv_at hl 0 rfl) ?_
    refine lv_bipush (v := -2) hx hb dX5_spree_10 (by decide +kernel) ?_
    obtain ⟨a_16, ha_16, hf⟩ := bd_e hf
    refine Ct.callV (As := [.int (-2 : Int32)]) (rest := []) (st1 := [.int a_16.1]) (c_X5_no l D cI A M (-2 : Int32) a_16 ha_16) hx hb hml hown hts (cwV 1 hts gX5_spree_X5_no rfl rfl rfl hd_X5_no ⟨Nat.le_of_ble_eq_true rfl, Nat.le_of_ble_eq_true rfl⟩) (va_recv hK hP (ci := 5) (q0 := 0) rfl cM_at0) (Ln.id rfl) hA hK hP hD hS rfl hl.1 rfl rfl (Nat.le_of_ble_eq_true rfl) dX5_spree_12 (fun H locs hP hD hS => ?_)
    replace hP : va_P D vwCl (cM cI A a_16.2) H := hP
    replace hD : va_D AA (cM cI A a_16.2) := hD
    exact hend (a_16.1, a_16.2) H locs _ _ hf hP hS dX5_spree_15

def rm_X5_lacksBehind : Room := { frames := 4, cells := 0, slots := 0, locals := 88 }
theorem hd_X5_lacksBehind : yX5_lacksBehind.cls = RX5 ∧ yX5_lacksBehind.cls ≠ "java/lang/invoke/MethodHandle" ∧ yX5_lacksBehind.cls ≠ "java/lang/invoke/VarHandle" ∧ (parseMethodDescriptor yX5_lacksBehind.desc).map (fun d => d.parameters.length) = some 2 := by decide +kernel
set_option maxRecDepth 100000 in
set_option maxHeartbeats 4000000 in
theorem c_X5_lacksBehind (l : Launch) (D : va_G) (cI : ClassId) (A : Nat → Nat) (M : St) (p1 : Int32) (p2 : Int32) (r : Int32 × St) (hf : f_X5_lacksBehind M p1 p2 = some r) : Ct l yX5_lacksBehind wsX5_lacksBehind rm_X5_lacksBehind D cI (cM cI A M) (cM cI A r.2) [.ref (A 0), .int p1, .int p2] (some (.int r.1)) := by
  unfold f_X5_lacksBehind at hf
  refine Ct.ofI (cc := cX5_lacksBehind) (maxL := 4) (by decide +kernel) rfl (Nat.le_of_ble_eq_true rfl) ?_
  intro p e s m args below meth c AA Q H locs ls hx hb hml hown hts hA hK hP hD hS hl hend0
  have hend : ∀ (r1 : Int32 × St) (H : Heap) (locs : List Loc) (pc : Nat) (ls : Array Slot), some r1 = some r → va_P D vwCl (cM cI A r1.2) H → va_S AA s.heap H locs → decode cX5_lacksBehind pc = .ok (.ireturn, 1) → W p l e rm_X5_lacksBehind s m args below meth c H locs 0 0 Q (F0 m pc ls [.int r1.1]) := by
    intro r1 H locs pc ls e1 hP hS hd; cases e1; exact hend0 H locs pc ls hP hS hd
  clear hend0
  have hw5 : ∀ w ∈ wsX50, w ∈ wsX5_lacksBehind := by decide +kernel
  have k31 := hts (.fieldLink RX5 31 "AnchorsForConfessionModel" "aboard" "[I") (by decide +kernel)
  replace hl : lv_has ls 4 [(0, .ref (A 0)), (1, .int p1), (2, .int p2)] := hl
  refine lv_aload_n hx hb dX5_lacksBehind_0 rfl (lv_at hl 0 rfl) ?_
  obtain ⟨a_1, ha_1, hf⟩ := bd_e hf
  refine Ct.callV (As := []) (rest := []) (st1 := []) (c_X5_thinks l D cI A M a_1 ha_1) hx hb hml hown hts (cwV 0 hts gX5_lacksBehind_X5_thinks rfl rfl rfl hd_X5_thinks ⟨Nat.le_of_ble_eq_true rfl, Nat.le_of_ble_eq_true rfl⟩) (va_recv hK hP (ci := 5) (q0 := 0) rfl cM_at0) (Ln.id rfl) hA hK hP hD hS rfl hl.1 rfl rfl (Nat.le_of_ble_eq_true rfl) dX5_lacksBehind_1 (fun H locs hP hD hS => ?_)
  replace hP : va_P D vwCl (cM cI A a_1) H := hP
  replace hD : va_D AA (cM cI A a_1) := hD
  refine lv_aload_n hx hb dX5_lacksBehind_4 rfl (lv_at hl 0 rfl) ?_
  refine lv_iload_n hx hb dX5_lacksBehind_5 rfl (lv_at hl 2 rfl) ?_
  obtain ⟨a_2, ha_2, hf⟩ := bd_e hf
  refine Ct.callV (As := [.int p2]) (rest := []) (st1 := []) (c_X5_goes l D cI A a_1 p2 a_2 ha_2) hx hb hml hown hts (cwV 1 hts gX5_lacksBehind_X5_goes rfl rfl rfl hd_X5_goes ⟨Nat.le_of_ble_eq_true rfl, Nat.le_of_ble_eq_true rfl⟩) (va_recv hK hP (ci := 5) (q0 := 0) rfl cM_at0) (Ln.id rfl) hA hK hP hD hS rfl hl.1 rfl rfl (Nat.le_of_ble_eq_true rfl) dX5_lacksBehind_6 (fun H locs hP hD hS => ?_)
  replace hP : va_P D vwCl (cM cI A a_2) H := hP
  replace hD : va_D AA (cM cI A a_2) := hD
  refine lv_aload_n hx hb dX5_lacksBehind_9 rfl (lv_at hl 0 rfl) ?_
  refine lv_iload_n hx hb dX5_lacksBehind_10 rfl (lv_at hl 1 rfl) ?_
  obtain ⟨a_3, ha_3, hf⟩ := bd_e hf
  refine Ct.callV (As := [.int p1]) (rest := []) (st1 := [.int a_3.1]) (c_X5_tellsOne l D cI A a_2 p1 a_3 ha_3) hx hb hml hown hts (cwV 1 hts gX5_lacksBehind_X5_tellsOne rfl rfl rfl hd_X5_tellsOne ⟨Nat.le_of_ble_eq_true rfl, Nat.le_of_ble_eq_true rfl⟩) (va_recv hK hP (ci := 5) (q0 := 0) rfl cM_at0) (Ln.id rfl) hA hK hP hD hS rfl hl.1 rfl rfl (Nat.le_of_ble_eq_true rfl) dX5_lacksBehind_11 (fun H locs hP hD hS => ?_)
  replace hP : va_P D vwCl (cM cI A a_3.2) H := hP
  replace hD : va_D AA (cM cI A a_3.2) := hD
  refine lv_pop hx hb dX5_lacksBehind_14 rfl ?_
  refine lv_aload_n hx hb dX5_lacksBehind_15 rfl (lv_at hl 0 rfl) ?_
  refine lv_aload_n hx hb dX5_lacksBehind_16 rfl (lv_at hl 0 rfl) ?_
  refine va_get (D := D) (ci := 5) (v := .ref (A 8)) (C := RX5) (T := TX5) (N := 27) hx hb hts hw5 hown hK hP 0 cM_at0 rfl 7 (by decide) k31 (fun _ h9 => h9) rfl dX5_lacksBehind_17 ?_
  refine lv_iload_n hx hb dX5_lacksBehind_20 rfl (lv_at hl 1 rfl) ?_
  obtain ⟨c_4, hf⟩ := gi_e hf
  refine va_iald hx hb hK hP 8 0 cM_at8 rfl c_4 dX5_lacksBehind_21 ?_
  obtain ⟨a_5, ha_5, hf⟩ := bd_e hf
  refine Ct.callV (As := [.int (a_3.2 7 (p1).toNatClampNeg)]) (rest := []) (st1 := [.int a_5]) (c_X5_lacks l D cI A a_3.2 (a_3.2 7 (p1).toNatClampNeg) a_5 ha_5) hx hb hml hown hts (cwV 1 hts gX5_lacksBehind_X5_lacks rfl rfl rfl hd_X5_lacks ⟨Nat.le_of_ble_eq_true rfl, Nat.le_of_ble_eq_true rfl⟩) (va_recv hK hP (ci := 5) (q0 := 0) rfl cM_at0) (Ln.id rfl) hA hK hP hD hS rfl hl.1 rfl rfl (Nat.le_of_ble_eq_true rfl) dX5_lacksBehind_22 (fun H locs hP hD hS => ?_)
  refine lv_istore_n (lv' := [(3, .int a_5), (0, .ref (A 0)), (1, .int p1), (2, .int p2)]) hx hb dX5_lacksBehind_25 rfl hl (by decide) rfl (fun ls hl => ?_)
  refine lv_aload_n hx hb dX5_lacksBehind_26 rfl (lv_at hl 1 rfl) ?_
  obtain ⟨a_6, ha_6, hf⟩ := bd_e hf
  refine Ct.callV (As := []) (rest := []) (st1 := []) (c_X5_forgets l D cI A a_3.2 a_6 ha_6) hx hb hml hown hts (cwV 0 hts gX5_lacksBehind_X5_forgets rfl rfl rfl hd_X5_forgets ⟨Nat.le_of_ble_eq_true rfl, Nat.le_of_ble_eq_true rfl⟩) (va_recv hK hP (ci := 5) (q0 := 0) rfl cM_at0) (Ln.id rfl) hA hK hP hD hS rfl hl.1 rfl rfl (Nat.le_of_ble_eq_true rfl) dX5_lacksBehind_27 (fun H locs hP hD hS => ?_)
  replace hP : va_P D vwCl (cM cI A a_6) H := hP
  replace hD : va_D AA (cM cI A a_6) := hD
  refine lv_iload_n hx hb dX5_lacksBehind_30 rfl (lv_at hl 0 rfl) ?_
  exact hend (a_5, a_6) H locs _ _ hf hP hS dX5_lacksBehind_31

def rm_X5_keep : Room := { frames := 5, cells := 0, slots := 0, locals := 111 }
theorem hd_X5_keep : yX5_keep.cls = RX5 ∧ yX5_keep.cls ≠ "java/lang/invoke/MethodHandle" ∧ yX5_keep.cls ≠ "java/lang/invoke/VarHandle" ∧ (parseMethodDescriptor yX5_keep.desc).map (fun d => d.parameters.length) = some 1 := by decide +kernel
set_option maxRecDepth 100000 in
set_option maxHeartbeats 4000000 in
theorem c_X5_keep (l : Launch) (D : va_G) (cI : ClassId) (A : Nat → Nat) (M : St) (p1 : Int32) (r : Int32 × St) (hf : f_X5_keep M p1 = some r) : Ct l yX5_keep wsX5_keep rm_X5_keep D cI (cM cI A M) (cM cI A r.2) [.ref (A 0), .int p1] (some (.int r.1)) := by
  unfold f_X5_keep at hf
  refine Ct.ofI (cc := cX5_keep) (maxL := 3) (by decide +kernel) rfl (Nat.le_of_ble_eq_true rfl) ?_
  intro p e s m args below meth c AA Q H locs ls hx hb hml hown hts hA hK hP hD hS hl hend0
  have hend : ∀ (r1 : Int32 × St) (H : Heap) (locs : List Loc) (pc : Nat) (ls : Array Slot), some r1 = some r → va_P D vwCl (cM cI A r1.2) H → va_S AA s.heap H locs → decode cX5_keep pc = .ok (.ireturn, 1) → W p l e rm_X5_keep s m args below meth c H locs 0 0 Q (F0 m pc ls [.int r1.1]) := by
    intro r1 H locs pc ls e1 hP hS hd; cases e1; exact hend0 H locs pc ls hP hS hd
  clear hend0
  replace hl : lv_has ls 3 [(0, .ref (A 0)), (1, .int p1)] := hl
  refine lv_aload_n hx hb dX5_keep_0 rfl (lv_at hl 0 rfl) ?_
  refine lv_iload_n hx hb dX5_keep_1 rfl (lv_at hl 1 rfl) ?_
  obtain ⟨a_1, ha_1, hf⟩ := bd_e hf
  refine Ct.callV (As := [.int p1]) (rest := []) (st1 := [.int a_1]) (c_X5_isMan l D cI A M p1 a_1 ha_1) hx hb hml hown hts (cwV 1 hts gX5_keep_X5_isMan rfl rfl rfl hd_X5_isMan ⟨Nat.le_of_ble_eq_true rfl, Nat.le_of_ble_eq_true rfl⟩) (va_recv hK hP (ci := 5) (q0 := 0) rfl cM_at0) (Ln.id rfl) hA hK hP hD hS rfl hl.1 rfl rfl (Nat.le_of_ble_eq_true rfl) dX5_keep_2 (fun H locs hP hD hS => ?_)
  refine lv_if_ne (tgt := 12) hx hb dX5_keep_5 (by decide) (fun c_2 => ?_) (fun c_2 => ?_)
  · replace hf := if_f c_2 hf
    refine lv_aload_n hx hb dX5_keep_12 rfl (lv_at hl 0 rfl) ?_
    refine lv_iload_n hx hb dX5_keep_13 rfl (lv_at hl 1 rfl) ?_
    obtain ⟨a_3, ha_3, hf⟩ := bd_e hf
    refine Ct.callV (As := [.int p1]) (rest := []) (st1 := [.int a_3]) (c_X5_canTell l D cI A M p1 a_3 ha_3) hx hb hml hown hts (cwV 1 hts gX5_keep_X5_canTell rfl rfl rfl hd_X5_canTell ⟨Nat.le_of_ble_eq_true rfl, Nat.le_of_ble_eq_true rfl⟩) (va_recv hK hP (ci := 5) (q0 := 0) rfl cM_at0) (Ln.id rfl) hA hK hP hD hS rfl hl.1 rfl rfl (Nat.le_of_ble_eq_true rfl) dX5_keep_14 (fun H locs hP hD hS => ?_)
    refine lv_if_ne (tgt := 25) hx hb dX5_keep_17 (by decide) (fun c_4 => ?_) (fun c_4 => ?_)
    · replace hf := if_f c_4 hf
      refine lv_iconst (v := 0) hx hb dX5_keep_25 (by decide) ?_
      refine lv_istore_n (lv' := [(2, .int (0 : Int32)), (0, .ref (A 0)), (1, .int p1)]) hx hb dX5_keep_26 rfl hl (by decide) rfl (fun ls hl => ?_)
      refine lv_iload_n hx hb dX5_keep_27 rfl (lv_at hl 0 rfl) ?_
      refine lv_if_eq (tgt := 37) hx hb dX5_keep_28 (by decide) (fun _ => ?_) (fun c0 => absurd c0 (by decide))
      refine lv_aload_n hx hb dX5_keep_37 rfl (lv_at hl 1 rfl) ?_
      refine lv_iload_n hx hb dX5_keep_38 rfl (lv_at hl 2 rfl) ?_
      refine lv_iconst (v := 0) hx hb dX5_keep_39 (by decide) ?_
      obtain ⟨a_5, ha_5, hf⟩ := bd_e hf
      refine Ct.callV (As := [.int p1, .int (0 : Int32)]) (rest := []) (st1 := [.int a_5.1]) (c_X5_lacksBehind l D cI A M p1 (0 : Int32) a_5 ha_5) hx hb hml hown hts (cwV 2 hts gX5_keep_X5_lacksBehind rfl rfl rfl hd_X5_lacksBehind ⟨Nat.le_of_ble_eq_true rfl, Nat.le_of_ble_eq_true rfl⟩) (va_recv hK hP (ci := 5) (q0 := 0) rfl cM_at0) (Ln.id rfl) hA hK hP hD hS rfl hl.1 rfl rfl (Nat.le_of_ble_eq_true rfl) dX5_keep_40 (fun H locs hP hD hS => ?_)
      replace hP : va_P D vwCl (cM cI A a_5.2) H := hP
      replace hD : va_D AA (cM cI A a_5.2) := hD
      refine lv_aload_n hx hb dX5_keep_43 rfl (lv_at hl 1 rfl) ?_
      refine lv_iload_n hx hb dX5_keep_44 rfl (lv_at hl 2 rfl) ?_
      refine lv_iconst (v := 1) hx hb dX5_keep_45 (by decide) ?_
      obtain ⟨a_6, ha_6, hf⟩ := bd_e hf
      refine Ct.callV (As := [.int p1, .int (1 : Int32)]) (rest := [.int a_5.1]) (st1 := [.int a_6.1, .int a_5.1]) (c_X5_lacksBehind l D cI A a_5.2 p1 (1 : Int32) a_6 ha_6) hx hb hml hown hts (cwV 2 hts gX5_keep_X5_lacksBehind rfl rfl rfl hd_X5_lacksBehind ⟨Nat.le_of_ble_eq_true rfl, Nat.le_of_ble_eq_true rfl⟩) (va_recv hK hP (ci := 5) (q0 := 0) rfl cM_at0) (Ln.id rfl) hA hK hP hD hS rfl hl.1 rfl rfl (Nat.le_of_ble_eq_true rfl) dX5_keep_46 (fun H locs hP hD hS => ?_)
      replace hP : va_P D vwCl (cM cI A a_6.2) H := hP
      replace hD : va_D AA (cM cI A a_6.2) := hD
      refine lv_icmp_gt (tgt := 56) hx hb dX5_keep_49 (by decide) (fun c_7 => ?_) (fun c_7 => ?_)
      · replace hf := if_t c_7 hf
        refine lv_iconst (v := 0) hx hb dX5_keep_56 (by decide) ?_
        exact hend ((0 : Int32), a_6.2) H locs _ _ hf hP hS dX5_keep_57
      · replace hf := if_f c_7 hf
        refine lv_iconst (v := 1) hx hb dX5_keep_52 (by decide) ?_
        refine lv_goto (tgt := 57) hx hb dX5_keep_53 (by decide) ?_
        exact hend ((1 : Int32), a_6.2) H locs _ _ hf hP hS dX5_keep_57
    · replace hf := if_t c_4 hf
      refine lv_bipush (v := -3) hx hb dX5_keep_20 (by decide +kernel) ?_
      refine lv_goto (tgt := 26) hx hb dX5_keep_22 (by decide) ?_
      refine lv_istore_n (lv' := [(2, .int (-3 : Int32)), (0, .ref (A 0)), (1, .int p1)]) hx hb dX5_keep_26 rfl hl (by decide) rfl (fun ls hl => ?_)
      refine lv_iload_n hx hb dX5_keep_27 rfl (lv_at hl 0 rfl) ?_
      refine lv_if_eq (tgt := 37) hx hb dX5_keep_28 (by decide) (fun c0 => absurd c0 (by decide)) (fun _ => ?_)
      refine lv_aload_n hx hb dX5_keep_31 rfl (lv_at hl 1 rfl) ?_
      refine lv_iload_n hx hb dX5_keep_32 rfl (lv_at hl 0 rfl) ?_
      obtain ⟨a_8, ha_8, hf⟩ := bd_e hf
      refine Ct.callV (As := [.int (-3 : Int32)]) (rest := []) (st1 := [.int a_8.1]) (c_X5_no l D cI A M (-3 : Int32) a_8 ha_8) hx hb hml hown hts (cwV 1 hts gX5_keep_X5_no rfl rfl rfl hd_X5_no ⟨Nat.le_of_ble_eq_true rfl, Nat.le_of_ble_eq_true rfl⟩) (va_recv hK hP (ci := 5) (q0 := 0) rfl cM_at0) (Ln.id rfl) hA hK hP hD hS rfl hl.1 rfl rfl (Nat.le_of_ble_eq_true rfl) dX5_keep_33 (fun H locs hP hD hS => ?_)
      replace hP : va_P D vwCl (cM cI A a_8.2) H := hP
      replace hD : va_D AA (cM cI A a_8.2) := hD
      exact hend (a_8.1, a_8.2) H locs _ _ hf hP hS dX5_keep_36
  · replace hf := if_t c_2 hf
    refine lv_iconst (v := -1) hx hb dX5_keep_8 (by decide) ?_
    refine lv_goto (tgt := 26) hx hb dX5_keep_9 (by decide) ?_
    refine lv_istore_n (lv' := [(2, .int (-1 : Int32)), (0, .ref (A 0)), (1, .int p1)]) hx hb dX5_keep_26 rfl hl (by decide) rfl (fun ls hl => ?_)
    refine lv_iload_n hx hb dX5_keep_27 rfl (lv_at hl 0 rfl) ?_
    refine lv_if_eq (tgt := 37) hx hb dX5_keep_28 (by decide) (fun c0 => absurd c0 (by decide)) (fun _ => ?_)
    refine lv_aload_n hx hb dX5_keep_31 rfl (lv_at hl 1 rfl) ?_
    refine lv_iload_n hx hb dX5_keep_32 rfl (lv_at hl 0 rfl) ?_
    obtain ⟨a_9, ha_9, hf⟩ := bd_e hf
    refine Ct.callV (As := [.int (-1 : Int32)]) (rest := []) (st1 := [.int a_9.1]) (c_X5_no l D cI A M (-1 : Int32) a_9 ha_9) hx hb hml hown hts (cwV 1 hts gX5_keep_X5_no rfl rfl rfl hd_X5_no ⟨Nat.le_of_ble_eq_true rfl, Nat.le_of_ble_eq_true rfl⟩) (va_recv hK hP (ci := 5) (q0 := 0) rfl cM_at0) (Ln.id rfl) hA hK hP hD hS rfl hl.1 rfl rfl (Nat.le_of_ble_eq_true rfl) dX5_keep_33 (fun H locs hP hD hS => ?_)
    replace hP : va_P D vwCl (cM cI A a_9.2) H := hP
    replace hD : va_D AA (cM cI A a_9.2) := hD
    exact hend (a_9.1, a_9.2) H locs _ _ hf hP hS dX5_keep_36

def rm_X5_richest : Room := { frames := 2, cells := 0, slots := 0, locals := 45 }
theorem hd_X5_richest : yX5_richest.cls = RX5 ∧ yX5_richest.cls ≠ "java/lang/invoke/MethodHandle" ∧ yX5_richest.cls ≠ "java/lang/invoke/VarHandle" ∧ (parseMethodDescriptor yX5_richest.desc).map (fun d => d.parameters.length) = some 1 := by decide +kernel
set_option maxRecDepth 100000 in
set_option maxHeartbeats 4000000 in
theorem c_X5_richest (l : Launch) (D : va_G) (cI : ClassId) (A : Nat → Nat) (M : St) (p1 : Int32) (r : Int32 × St) (hf : f_X5_richest M p1 = some r) : Ct l yX5_richest wsX5_richest rm_X5_richest D cI (cM cI A M) (cM cI A r.2) [.ref (A 0), .int p1] (some (.int r.1)) := by
  unfold f_X5_richest at hf
  refine Ct.ofI (cc := cX5_richest) (maxL := 4) (by decide +kernel) rfl (Nat.le_of_ble_eq_true rfl) ?_
  intro p e s m args below meth c AA Q H locs ls hx hb hml hown hts hA hK hP hD hS hl hend0
  have hend : ∀ (r1 : Int32 × St) (H : Heap) (locs : List Loc) (pc : Nat) (ls : Array Slot), some r1 = some r → va_P D vwCl (cM cI A r1.2) H → va_S AA s.heap H locs → decode cX5_richest pc = .ok (.ireturn, 1) → W p l e rm_X5_richest s m args below meth c H locs 0 0 Q (F0 m pc ls [.int r1.1]) := by
    intro r1 H locs pc ls e1 hP hS hd; cases e1; exact hend0 H locs pc ls hP hS hd
  clear hend0
  have hw5 : ∀ w ∈ wsX50, w ∈ wsX5_richest := by decide +kernel
  have k28 := hts (.fieldLink RX5 28 "AnchorsForConfessionModel" "sins" "[I") (by decide +kernel)
  have k65 := hts (.fieldLink RX5 65 "AnchorsForConfessionModel" "men" "I") (by decide +kernel)
  replace hl : lv_has ls 4 [(0, .ref (A 0)), (1, .int p1)] := hl
  refine lv_iload_n hx hb dX5_richest_0 rfl (lv_at hl 1 rfl) ?_
  refine lv_iconst (v := 0) hx hb dX5_richest_1 (by decide) ?_
  refine lv_iconst (v := 1) hx hb dX5_richest_2 (by decide) ?_
  obtain ⟨a_1, ha_1, hf⟩ := bd_e hf
  refine Ct.callS (As := [.int p1, .int (0 : Int32), .int (1 : Int32)]) (rest := []) (st1 := [.int a_1]) (c_X5_isIn l D cI  p1 (0 : Int32) (1 : Int32) a_1 ha_1) hx hb hml hown hts (va_cwS 3 hts gX5_richest_X5_isIn rfl rfl rfl hd_X5_isIn ⟨Nat.le_of_ble_eq_true rfl, Nat.le_of_ble_eq_true rfl⟩) Ln.nil hA hK hP hD hS rfl hl.1 rfl rfl (Nat.le_of_ble_eq_true rfl) dX5_richest_3 (fun H locs hP hD hS => ?_)
  refine lv_if_ne (tgt := 16) hx hb dX5_richest_6 (by decide) (fun c_2 => ?_) (fun c_2 => ?_)
  · replace hf := if_f c_2 hf
    refine lv_bipush (v := -9) hx hb dX5_richest_16 (by decide +kernel) ?_
    refine lv_istore_n (lv' := [(2, .int (-9 : Int32)), (0, .ref (A 0)), (1, .int p1)]) hx hb dX5_richest_18 rfl hl (by decide) rfl (fun ls hl => ?_)
    refine lv_iconst (v := 0) hx hb dX5_richest_19 (by decide) ?_
    refine lv_istore_n (lv' := [(3, .int (0 : Int32)), (2, .int (-9 : Int32)), (0, .ref (A 0)), (1, .int p1)]) hx hb dX5_richest_20 rfl hl (by decide) rfl (fun ls hl => ?_)
    refine lp_ind (P := fun (q21 : Int32 × Int32) => ∀ (H : Heap) (locs : List Loc) (ls : Array Slot), va_P D vwCl (cM cI A M) H → va_D AA (cM cI A M) → va_S AA s.heap H locs → lv_has ls 4 [(0, .ref (A 0)), (1, .int p1), (2, .int q21.1), (3, .int q21.2)] → W p l e rm_X5_richest s m args below meth c H locs 0 0 Q (F0 m 21 ls [])) hf ?_ H locs ls hP hD hS (lv_sub hl [2, 3, 1, 0] rfl)
    clear hf hP hD hS hl
    intro nx21 ih21 q21 hf H locs ls hP hD hS hl
    refine lv_iload_n hx hb dX5_richest_21 rfl (lv_at hl 3 rfl) ?_
    refine lv_aload_n hx hb dX5_richest_22 rfl (lv_at hl 0 rfl) ?_
    refine va_get (D := D) (ci := 5) (v := .int (M 16 1)) (C := RX5) (T := TX5) (N := 27) hx hb hts hw5 hown hK hP 0 cM_at0 rfl 9 (by decide) k65 (fun _ h9 => h9) rfl dX5_richest_23 ?_
    refine lv_icmp_ge (tgt := 76) hx hb dX5_richest_26 (by decide) (fun c_3 => ?_) (fun c_3 => ?_)
    · replace hf := if_t c_3 hf
      refine lv_iload_n hx hb dX5_richest_76 rfl (lv_at hl 2 rfl) ?_
      exact hend (q21.1, M) H locs _ _ hf hP hS dX5_richest_77
    · replace hf := if_f c_3 hf
      refine lv_iload_n hx hb dX5_richest_29 rfl (lv_at hl 2 rfl) ?_
      refine lv_if_lt (tgt := 68) hx hb dX5_richest_30 (by decide) (fun c_4 => ?_) (fun c_4 => ?_)
      · replace hf := if_t c_4 hf
        refine lv_iload_n hx hb dX5_richest_68 rfl (lv_at hl 3 rfl) ?_
        refine lv_istore_n (lv' := [(2, .int q21.2), (0, .ref (A 0)), (1, .int p1), (3, .int q21.2)]) hx hb dX5_richest_69 rfl hl (by decide) rfl (fun ls hl => ?_)
        obtain ⟨v_5, ev_5, hf⟩ := nq_e hf
        refine lv_iinc (v := v_5) (lv' := [(3, .int v_5), (2, .int q21.2), (0, .ref (A 0)), (1, .int p1)]) hx hb dX5_richest_70 hl (k := 3) rfl (by rw [ev_5]; rfl) (by decide) rfl (fun ls hl => ?_)
        refine lv_goto (tgt := 21) hx hb dX5_richest_73 (by decide) ?_
        exact ih21 (q21.2, v_5) hf H locs ls hP hD hS (lv_sub hl [2, 3, 1, 0] rfl)
      · replace hf := if_f c_4 hf
        refine lv_iload_n hx hb dX5_richest_33 rfl (lv_at hl 1 rfl) ?_
        refine lv_if_ne (tgt := 55) hx hb dX5_richest_34 (by decide) (fun c_6 => ?_) (fun c_6 => ?_)
        · replace hf := if_f c_6 hf
          refine lv_aload_n hx hb dX5_richest_55 rfl (lv_at hl 0 rfl) ?_
          refine lv_iload_n hx hb dX5_richest_56 rfl (lv_at hl 3 rfl) ?_
          obtain ⟨a_7, ha_7, hf⟩ := bd_e hf
          refine Ct.callV (As := [.int q21.2]) (rest := []) (st1 := [.int a_7]) (c_X5_worth l D cI A M q21.2 a_7 ha_7) hx hb hml hown hts (cwV 1 hts gX5_richest_X5_worth rfl rfl rfl hd_X5_worth ⟨Nat.le_of_ble_eq_true rfl, Nat.le_of_ble_eq_true rfl⟩) (va_recv hK hP (ci := 5) (q0 := 0) rfl cM_at0) (Ln.id rfl) hA hK hP hD hS rfl hl.1 rfl rfl (Nat.le_of_ble_eq_true rfl) dX5_richest_57 (fun H locs hP hD hS => ?_)
          refine lv_aload_n hx hb dX5_richest_60 rfl (lv_at hl 0 rfl) ?_
          refine lv_iload_n hx hb dX5_richest_61 rfl (lv_at hl 2 rfl) ?_
          obtain ⟨a_8, ha_8, hf⟩ := bd_e hf
          refine Ct.callV (As := [.int q21.1]) (rest := [.int a_7]) (st1 := [.int a_8, .int a_7]) (c_X5_worth l D cI A M q21.1 a_8 ha_8) hx hb hml hown hts (cwV 1 hts gX5_richest_X5_worth rfl rfl rfl hd_X5_worth ⟨Nat.le_of_ble_eq_true rfl, Nat.le_of_ble_eq_true rfl⟩) (va_recv hK hP (ci := 5) (q0 := 0) rfl cM_at0) (Ln.id rfl) hA hK hP hD hS rfl hl.1 rfl rfl (Nat.le_of_ble_eq_true rfl) dX5_richest_62 (fun H locs hP hD hS => ?_)
          refine lv_icmp_le (tgt := 70) hx hb dX5_richest_65 (by decide) (fun c_9 => ?_) (fun c_9 => ?_)
          · replace hf := if_t c_9 hf
            obtain ⟨v_10, ev_10, hf⟩ := nq_e hf
            refine lv_iinc (v := v_10) (lv' := [(3, .int v_10), (0, .ref (A 0)), (1, .int p1), (2, .int q21.1)]) hx hb dX5_richest_70 hl (k := 3) rfl (by rw [ev_10]; rfl) (by decide) rfl (fun ls hl => ?_)
            refine lv_goto (tgt := 21) hx hb dX5_richest_73 (by decide) ?_
            exact ih21 (q21.1, v_10) hf H locs ls hP hD hS (lv_sub hl [1, 2, 3, 0] rfl)
          · replace hf := if_f c_9 hf
            refine lv_iload_n hx hb dX5_richest_68 rfl (lv_at hl 3 rfl) ?_
            refine lv_istore_n (lv' := [(2, .int q21.2), (0, .ref (A 0)), (1, .int p1), (3, .int q21.2)]) hx hb dX5_richest_69 rfl hl (by decide) rfl (fun ls hl => ?_)
            obtain ⟨v_11, ev_11, hf⟩ := nq_e hf
            refine lv_iinc (v := v_11) (lv' := [(3, .int v_11), (2, .int q21.2), (0, .ref (A 0)), (1, .int p1)]) hx hb dX5_richest_70 hl (k := 3) rfl (by rw [ev_11]; rfl) (by decide) rfl (fun ls hl => ?_)
            refine lv_goto (tgt := 21) hx hb dX5_richest_73 (by decide) ?_
            exact ih21 (q21.2, v_11) hf H locs ls hP hD hS (lv_sub hl [2, 3, 1, 0] rfl)
        · replace hf := if_t c_6 hf
          refine lv_aload_n hx hb dX5_richest_37 rfl (lv_at hl 0 rfl) ?_
          refine va_get (D := D) (ci := 5) (v := .ref (A 7)) (C := RX5) (T := TX5) (N := 27) hx hb hts hw5 hown hK hP 0 cM_at0 rfl 6 (by decide) k28 (fun _ h9 => h9) rfl dX5_richest_38 ?_
          refine lv_iload_n hx hb dX5_richest_41 rfl (lv_at hl 3 rfl) ?_
          obtain ⟨c_12, hf⟩ := gi_e hf
          refine va_iald hx hb hK hP 7 0 cM_at7 rfl c_12 dX5_richest_42 ?_
          refine lv_aload_n hx hb dX5_richest_43 rfl (lv_at hl 0 rfl) ?_
          refine va_get (D := D) (ci := 5) (v := .ref (A 7)) (C := RX5) (T := TX5) (N := 27) hx hb hts hw5 hown hK hP 0 cM_at0 rfl 6 (by decide) k28 (fun _ h9 => h9) rfl dX5_richest_44 ?_
          refine lv_iload_n hx hb dX5_richest_47 rfl (lv_at hl 2 rfl) ?_
          obtain ⟨c_13, hf⟩ := gi_e hf
          refine va_iald hx hb hK hP 7 0 cM_at7 rfl c_13 dX5_richest_48 ?_
          refine lv_icmp_le (tgt := 70) hx hb dX5_richest_49 (by decide) (fun c_14 => ?_) (fun c_14 => ?_)
          · replace hf := if_t c_14 hf
            obtain ⟨v_15, ev_15, hf⟩ := nq_e hf
            refine lv_iinc (v := v_15) (lv' := [(3, .int v_15), (0, .ref (A 0)), (1, .int p1), (2, .int q21.1)]) hx hb dX5_richest_70 hl (k := 3) rfl (by rw [ev_15]; rfl) (by decide) rfl (fun ls hl => ?_)
            refine lv_goto (tgt := 21) hx hb dX5_richest_73 (by decide) ?_
            exact ih21 (q21.1, v_15) hf H locs ls hP hD hS (lv_sub hl [1, 2, 3, 0] rfl)
          · replace hf := if_f c_14 hf
            refine lv_goto (tgt := 68) hx hb dX5_richest_52 (by decide) ?_
            refine lv_iload_n hx hb dX5_richest_68 rfl (lv_at hl 3 rfl) ?_
            refine lv_istore_n (lv' := [(2, .int q21.2), (0, .ref (A 0)), (1, .int p1), (3, .int q21.2)]) hx hb dX5_richest_69 rfl hl (by decide) rfl (fun ls hl => ?_)
            obtain ⟨v_16, ev_16, hf⟩ := nq_e hf
            refine lv_iinc (v := v_16) (lv' := [(3, .int v_16), (2, .int q21.2), (0, .ref (A 0)), (1, .int p1)]) hx hb dX5_richest_70 hl (k := 3) rfl (by rw [ev_16]; rfl) (by decide) rfl (fun ls hl => ?_)
            refine lv_goto (tgt := 21) hx hb dX5_richest_73 (by decide) ?_
            exact ih21 (q21.2, v_16) hf H locs ls hP hD hS (lv_sub hl [2, 3, 1, 0] rfl)
  · replace hf := if_t c_2 hf
    refine lv_aload_n hx hb dX5_richest_9 rfl (lv_at hl 0 rfl) ?_
    refine lv_bipush (v := -2) hx hb dX5_richest_10 (by decide +kernel) ?_
    obtain ⟨a_17, ha_17, hf⟩ := bd_e hf
    refine Ct.callV (As := [.int (-2 : Int32)]) (rest := []) (st1 := [.int a_17.1]) (c_X5_no l D cI A M (-2 : Int32) a_17 ha_17) hx hb hml hown hts (cwV 1 hts gX5_richest_X5_no rfl rfl rfl hd_X5_no ⟨Nat.le_of_ble_eq_true rfl, Nat.le_of_ble_eq_true rfl⟩) (va_recv hK hP (ci := 5) (q0 := 0) rfl cM_at0) (Ln.id rfl) hA hK hP hD hS rfl hl.1 rfl rfl (Nat.le_of_ble_eq_true rfl) dX5_richest_12 (fun H locs hP hD hS => ?_)
    replace hP : va_P D vwCl (cM cI A a_17.2) H := hP
    replace hD : va_D AA (cM cI A a_17.2) := hD
    exact hend (a_17.1, a_17.2) H locs _ _ hf hP hS dX5_richest_15

def rm_X5_blameless : Room := { frames := 0, cells := 0, slots := 0, locals := 0 }
theorem hd_X5_blameless : yX5_blameless.cls = RX5 ∧ yX5_blameless.cls ≠ "java/lang/invoke/MethodHandle" ∧ yX5_blameless.cls ≠ "java/lang/invoke/VarHandle" ∧ (parseMethodDescriptor yX5_blameless.desc).map (fun d => d.parameters.length) = some 0 := by decide +kernel
set_option maxRecDepth 100000 in
set_option maxHeartbeats 4000000 in
theorem c_X5_blameless (l : Launch) (D : va_G) (cI : ClassId) (A : Nat → Nat) (M : St) (r : Int32) (hf : f_X5_blameless M = some r) : Ct l yX5_blameless wsX5_blameless rm_X5_blameless D cI (cM cI A M) (cM cI A M) [.ref (A 0)] (some (.int r)) := by
  unfold f_X5_blameless at hf
  refine Ct.ofI (cc := cX5_blameless) (maxL := 3) (by decide +kernel) rfl (Nat.le_of_ble_eq_true rfl) ?_
  intro p e s m args below meth c AA Q H locs ls hx hb hml hown hts hA hK hP hD hS hl hend0
  have hend : ∀ (r1 : Int32) (H : Heap) (locs : List Loc) (pc : Nat) (ls : Array Slot), some r1 = some r → va_P D vwCl (cM cI A M) H → va_S AA s.heap H locs → decode cX5_blameless pc = .ok (.ireturn, 1) → W p l e rm_X5_blameless s m args below meth c H locs 0 0 Q (F0 m pc ls [.int r1]) := by
    intro r1 H locs pc ls e1 hP hS hd; cases e1; exact hend0 H locs pc ls hP hS hd
  clear hend0
  have hw5 : ∀ w ∈ wsX50, w ∈ wsX5_blameless := by decide +kernel
  have k28 := hts (.fieldLink RX5 28 "AnchorsForConfessionModel" "sins" "[I") (by decide +kernel)
  have k31 := hts (.fieldLink RX5 31 "AnchorsForConfessionModel" "aboard" "[I") (by decide +kernel)
  have k58 := hts (.fieldLink RX5 58 "AnchorsForConfessionModel" "ships" "I") (by decide +kernel)
  have k65 := hts (.fieldLink RX5 65 "AnchorsForConfessionModel" "men" "I") (by decide +kernel)
  replace hl : lv_has ls 3 [(0, .ref (A 0))] := hl
  refine lv_iconst (v := 1) hx hb dX5_blameless_0 (by decide) ?_
  refine lv_aload_n hx hb dX5_blameless_1 rfl (lv_at hl 0 rfl) ?_
  refine va_get (D := D) (ci := 5) (v := .int (M 16 0)) (C := RX5) (T := TX5) (N := 27) hx hb hts hw5 hown hK hP 0 cM_at0 rfl 8 (by decide) k58 (fun _ h9 => h9) rfl dX5_blameless_2 ?_
  refine lv_ishl hx hb dX5_blameless_5 ?_
  refine lv_iconst (v := 1) hx hb dX5_blameless_6 (by decide) ?_
  refine lv_isub hx hb dX5_blameless_7 ?_
  refine lv_topi (fun v_1 ev_1 => ?_)
  replace hf := nm_at ev_1 hf
  refine lv_istore_n (lv' := [(1, .int v_1), (0, .ref (A 0))]) hx hb dX5_blameless_8 rfl hl (by decide) rfl (fun ls hl => ?_)
  refine lv_iconst (v := 0) hx hb dX5_blameless_9 (by decide) ?_
  refine lv_istore_n (lv' := [(2, .int (0 : Int32)), (1, .int v_1), (0, .ref (A 0))]) hx hb dX5_blameless_10 rfl hl (by decide) rfl (fun ls hl => ?_)
  refine lp_ind (P := fun (q11 : Int32 × Int32) => ∀ (H : Heap) (locs : List Loc) (ls : Array Slot), va_P D vwCl (cM cI A M) H → va_D AA (cM cI A M) → va_S AA s.heap H locs → lv_has ls 3 [(0, .ref (A 0)), (1, .int q11.1), (2, .int q11.2)] → W p l e rm_X5_blameless s m args below meth c H locs 0 0 Q (F0 m 11 ls [])) hf ?_ H locs ls hP hD hS (lv_sub hl [2, 1, 0] rfl)
  clear hf hP hD hS hl
  intro nx11 ih11 q11 hf H locs ls hP hD hS hl
  refine lv_iload_n hx hb dX5_blameless_11 rfl (lv_at hl 2 rfl) ?_
  refine lv_aload_n hx hb dX5_blameless_12 rfl (lv_at hl 0 rfl) ?_
  refine va_get (D := D) (ci := 5) (v := .int (M 16 1)) (C := RX5) (T := TX5) (N := 27) hx hb hts hw5 hown hK hP 0 cM_at0 rfl 9 (by decide) k65 (fun _ h9 => h9) rfl dX5_blameless_13 ?_
  refine lv_icmp_ge (tgt := 51) hx hb dX5_blameless_16 (by decide) (fun c_2 => ?_) (fun c_2 => ?_)
  · replace hf := if_t c_2 hf
    refine lv_iload_n hx hb dX5_blameless_51 rfl (lv_at hl 1 rfl) ?_
    exact hend q11.1 H locs _ _ hf hP hS dX5_blameless_52
  · replace hf := if_f c_2 hf
    refine lv_iload_n hx hb dX5_blameless_19 rfl (lv_at hl 1 rfl) ?_
    refine lv_aload_n hx hb dX5_blameless_20 rfl (lv_at hl 0 rfl) ?_
    refine va_get (D := D) (ci := 5) (v := .ref (A 7)) (C := RX5) (T := TX5) (N := 27) hx hb hts hw5 hown hK hP 0 cM_at0 rfl 6 (by decide) k28 (fun _ h9 => h9) rfl dX5_blameless_21 ?_
    refine lv_iload_n hx hb dX5_blameless_24 rfl (lv_at hl 2 rfl) ?_
    obtain ⟨c_3, hf⟩ := gi_e hf
    refine va_iald hx hb hK hP 7 0 cM_at7 rfl c_3 dX5_blameless_25 ?_
    refine lv_if_le (tgt := 42) hx hb dX5_blameless_26 (by decide) (fun c_4 => ?_) (fun c_4 => ?_)
    · replace hf := if_t c_4 hf
      refine lv_iconst (v := -1) hx hb dX5_blameless_42 (by decide) ?_
      refine lv_iand hx hb dX5_blameless_43 ?_
      refine lv_topi (fun v_5 ev_5 => ?_)
      replace hf := nm_at ev_5 hf
      refine lv_istore_n (lv' := [(1, .int v_5), (0, .ref (A 0)), (2, .int q11.2)]) hx hb dX5_blameless_44 rfl hl (by decide) rfl (fun ls hl => ?_)
      obtain ⟨v_6, ev_6, hf⟩ := nq_e hf
      refine lv_iinc (v := v_6) (lv' := [(2, .int v_6), (1, .int v_5), (0, .ref (A 0))]) hx hb dX5_blameless_45 hl (k := 2) rfl (by rw [ev_6]; rfl) (by decide) rfl (fun ls hl => ?_)
      refine lv_goto (tgt := 11) hx hb dX5_blameless_48 (by decide) ?_
      exact ih11 (v_5, v_6) hf H locs ls hP hD hS (lv_sub hl [2, 1, 0] rfl)
    · replace hf := if_f c_4 hf
      refine lv_iconst (v := 1) hx hb dX5_blameless_29 (by decide) ?_
      refine lv_aload_n hx hb dX5_blameless_30 rfl (lv_at hl 0 rfl) ?_
      refine va_get (D := D) (ci := 5) (v := .ref (A 8)) (C := RX5) (T := TX5) (N := 27) hx hb hts hw5 hown hK hP 0 cM_at0 rfl 7 (by decide) k31 (fun _ h9 => h9) rfl dX5_blameless_31 ?_
      refine lv_iload_n hx hb dX5_blameless_34 rfl (lv_at hl 2 rfl) ?_
      obtain ⟨c_7, hf⟩ := gi_e hf
      refine va_iald hx hb hK hP 8 0 cM_at8 rfl c_7 dX5_blameless_35 ?_
      refine lv_ishl hx hb dX5_blameless_36 ?_
      refine lv_iconst (v := -1) hx hb dX5_blameless_37 (by decide) ?_
      refine lv_ixor hx hb dX5_blameless_38 ?_
      refine lv_goto (tgt := 43) hx hb dX5_blameless_39 (by decide) ?_
      refine lv_iand hx hb dX5_blameless_43 ?_
      refine lv_topi (fun v_8 ev_8 => ?_)
      replace hf := nm_at ev_8 hf
      refine lv_istore_n (lv' := [(1, .int v_8), (0, .ref (A 0)), (2, .int q11.2)]) hx hb dX5_blameless_44 rfl hl (by decide) rfl (fun ls hl => ?_)
      obtain ⟨v_9, ev_9, hf⟩ := nq_e hf
      refine lv_iinc (v := v_9) (lv' := [(2, .int v_9), (1, .int v_8), (0, .ref (A 0))]) hx hb dX5_blameless_45 hl (k := 2) rfl (by rw [ev_9]; rfl) (by decide) rfl (fun ls hl => ?_)
      refine lv_goto (tgt := 11) hx hb dX5_blameless_48 (by decide) ?_
      exact ih11 (v_8, v_9) hf H locs ls hP hD hS (lv_sub hl [2, 1, 0] rfl)

def rm_X5_ebb : Room := { frames := 3, cells := 0, slots := 0, locals := 69 }
theorem hd_X5_ebb : yX5_ebb.cls = RX5 ∧ yX5_ebb.cls ≠ "java/lang/invoke/MethodHandle" ∧ yX5_ebb.cls ≠ "java/lang/invoke/VarHandle" ∧ (parseMethodDescriptor yX5_ebb.desc).map (fun d => d.parameters.length) = some 1 := by decide +kernel
set_option maxRecDepth 100000 in
set_option maxHeartbeats 4000000 in
theorem c_X5_ebb (l : Launch) (D : va_G) (cI : ClassId) (A : Nat → Nat) (M : St) (p1 : Int32) (r : Int32 × St) (hf : f_X5_ebb M p1 = some r) : Ct l yX5_ebb wsX5_ebb rm_X5_ebb D cI (cM cI A M) (cM cI A r.2) [.ref (A 0), .int p1] (some (.int r.1)) := by
  unfold f_X5_ebb at hf
  refine Ct.ofI (cc := cX5_ebb) (maxL := 2) (by decide +kernel) rfl (Nat.le_of_ble_eq_true rfl) ?_
  intro p e s m args below meth c AA Q H locs ls hx hb hml hown hts hA hK hP hD hS hl hend0
  have hend : ∀ (r1 : Int32 × St) (H : Heap) (locs : List Loc) (pc : Nat) (ls : Array Slot), some r1 = some r → va_P D vwCl (cM cI A r1.2) H → va_S AA s.heap H locs → decode cX5_ebb pc = .ok (.ireturn, 1) → W p l e rm_X5_ebb s m args below meth c H locs 0 0 Q (F0 m pc ls [.int r1.1]) := by
    intro r1 H locs pc ls e1 hP hS hd; cases e1; exact hend0 H locs pc ls hP hS hd
  clear hend0
  have hw5 : ∀ w ∈ wsX50, w ∈ wsX5_ebb := by decide +kernel
  have k110 := hts (.fieldLink RX5 110 "AnchorsForConfessionModel" "tide" "I") (by decide +kernel)
  replace hl : lv_has ls 2 [(0, .ref (A 0)), (1, .int p1)] := hl
  refine lv_aload_n hx hb dX5_ebb_0 rfl (lv_at hl 0 rfl) ?_
  refine lv_iload_n hx hb dX5_ebb_1 rfl (lv_at hl 1 rfl) ?_
  obtain ⟨a_1, ha_1, hf⟩ := bd_e hf
  refine Ct.callV (As := [.int p1]) (rest := []) (st1 := [.int a_1]) (c_X5_isShip l D cI A M p1 a_1 ha_1) hx hb hml hown hts (cwV 1 hts gX5_ebb_X5_isShip rfl rfl rfl hd_X5_isShip ⟨Nat.le_of_ble_eq_true rfl, Nat.le_of_ble_eq_true rfl⟩) (va_recv hK hP (ci := 5) (q0 := 0) rfl cM_at0) (Ln.id rfl) hA hK hP hD hS rfl hl.1 rfl rfl (Nat.le_of_ble_eq_true rfl) dX5_ebb_2 (fun H locs hP hD hS => ?_)
  refine lv_if_eq (tgt := 28) hx hb dX5_ebb_5 (by decide) (fun c_2 => ?_) (fun c_2 => ?_)
  · replace hf := if_t c_2 hf
    refine lv_aload_n hx hb dX5_ebb_28 rfl (lv_at hl 0 rfl) ?_
    refine lv_iconst (v := -1) hx hb dX5_ebb_29 (by decide) ?_
    obtain ⟨a_3, ha_3, hf⟩ := bd_e hf
    refine Ct.callV (As := [.int (-1 : Int32)]) (rest := []) (st1 := [.int a_3.1]) (c_X5_lower l D cI A M (-1 : Int32) a_3 ha_3) hx hb hml hown hts (cwV 1 hts gX5_ebb_X5_lower rfl rfl rfl hd_X5_lower ⟨Nat.le_of_ble_eq_true rfl, Nat.le_of_ble_eq_true rfl⟩) (va_recv hK hP (ci := 5) (q0 := 0) rfl cM_at0) (Ln.id rfl) hA hK hP hD hS rfl hl.1 rfl rfl (Nat.le_of_ble_eq_true rfl) dX5_ebb_30 (fun H locs hP hD hS => ?_)
    replace hP : va_P D vwCl (cM cI A a_3.2) H := hP
    replace hD : va_D AA (cM cI A a_3.2) := hD
    exact hend (a_3.1, a_3.2) H locs _ _ hf hP hS dX5_ebb_33
  · replace hf := if_f c_2 hf
    refine lv_aload_n hx hb dX5_ebb_8 rfl (lv_at hl 0 rfl) ?_
    refine lv_iload_n hx hb dX5_ebb_9 rfl (lv_at hl 1 rfl) ?_
    refine lv_aload_n hx hb dX5_ebb_10 rfl (lv_at hl 0 rfl) ?_
    refine va_get (D := D) (ci := 5) (v := .int (M 16 3)) (C := RX5) (T := TX5) (N := 27) hx hb hts hw5 hown hK hP 0 cM_at0 rfl 11 (by decide) k110 (fun _ h9 => h9) rfl dX5_ebb_11 ?_
    refine lv_iconst (v := 1) hx hb dX5_ebb_14 (by decide) ?_
    refine lv_iadd hx hb dX5_ebb_15 ?_
    obtain ⟨a_4, ha_4, hf⟩ := bd_e hf
    refine Ct.callV (As := [.int p1, .int ((M 16 3) + (1 : Int32))]) (rest := []) (st1 := [.int a_4]) (c_X5_poolOn l D cI A M p1 ((M 16 3) + (1 : Int32)) a_4 ha_4) hx hb hml hown hts (cwV 2 hts gX5_ebb_X5_poolOn rfl rfl rfl hd_X5_poolOn ⟨Nat.le_of_ble_eq_true rfl, Nat.le_of_ble_eq_true rfl⟩) (va_recv hK hP (ci := 5) (q0 := 0) rfl cM_at0) (Ln.id rfl) hA hK hP hD hS rfl hl.1 rfl rfl (Nat.le_of_ble_eq_true rfl) dX5_ebb_16 (fun H locs hP hD hS => ?_)
    refine lv_aload_n hx hb dX5_ebb_19 rfl (lv_at hl 0 rfl) ?_
    refine lv_iload_n hx hb dX5_ebb_20 rfl (lv_at hl 1 rfl) ?_
    obtain ⟨a_5, ha_5, hf⟩ := bd_e hf
    refine Ct.callV (As := [.int p1]) (rest := [.int a_4]) (st1 := [.int a_5, .int a_4]) (c_X5_pool l D cI A M p1 a_5 ha_5) hx hb hml hown hts (cwV 1 hts gX5_ebb_X5_pool rfl rfl rfl hd_X5_pool ⟨Nat.le_of_ble_eq_true rfl, Nat.le_of_ble_eq_true rfl⟩) (va_recv hK hP (ci := 5) (q0 := 0) rfl cM_at0) (Ln.id rfl) hA hK hP hD hS rfl hl.1 rfl rfl (Nat.le_of_ble_eq_true rfl) dX5_ebb_21 (fun H locs hP hD hS => ?_)
    refine lv_isub hx hb dX5_ebb_24 ?_
    refine lv_goto (tgt := 33) hx hb dX5_ebb_25 (by decide) ?_
    exact hend ((a_4 - a_5), M) H locs _ _ hf hP hS dX5_ebb_33

def rm_X5_missing : Room := { frames := 3, cells := 0, slots := 0, locals := 69 }
theorem hd_X5_missing : yX5_missing.cls = RX5 ∧ yX5_missing.cls ≠ "java/lang/invoke/MethodHandle" ∧ yX5_missing.cls ≠ "java/lang/invoke/VarHandle" ∧ (parseMethodDescriptor yX5_missing.desc).map (fun d => d.parameters.length) = some 0 := by decide +kernel
set_option maxRecDepth 100000 in
set_option maxHeartbeats 4000000 in
theorem c_X5_missing (l : Launch) (D : va_G) (cI : ClassId) (A : Nat → Nat) (M : St) (r : Int32) (hf : f_X5_missing M = some r) : Ct l yX5_missing wsX5_missing rm_X5_missing D cI (cM cI A M) (cM cI A M) [.ref (A 0)] (some (.int r)) := by
  unfold f_X5_missing at hf
  refine Ct.ofI (cc := cX5_missing) (maxL := 3) (by decide +kernel) rfl (Nat.le_of_ble_eq_true rfl) ?_
  intro p e s m args below meth c AA Q H locs ls hx hb hml hown hts hA hK hP hD hS hl hend0
  have hend : ∀ (r1 : Int32) (H : Heap) (locs : List Loc) (pc : Nat) (ls : Array Slot), some r1 = some r → va_P D vwCl (cM cI A M) H → va_S AA s.heap H locs → decode cX5_missing pc = .ok (.ireturn, 1) → W p l e rm_X5_missing s m args below meth c H locs 0 0 Q (F0 m pc ls [.int r1]) := by
    intro r1 H locs pc ls e1 hP hS hd; cases e1; exact hend0 H locs pc ls hP hS hd
  clear hend0
  have hw5 : ∀ w ∈ wsX50, w ∈ wsX5_missing := by decide +kernel
  have k19 := hts (.fieldLink RX5 19 "AnchorsForConfessionModel" "out" "[I") (by decide +kernel)
  have k58 := hts (.fieldLink RX5 58 "AnchorsForConfessionModel" "ships" "I") (by decide +kernel)
  replace hl : lv_has ls 3 [(0, .ref (A 0))] := hl
  refine lv_iconst (v := 0) hx hb dX5_missing_0 (by decide) ?_
  refine lv_istore_n (lv' := [(1, .int (0 : Int32)), (0, .ref (A 0))]) hx hb dX5_missing_1 rfl hl (by decide) rfl (fun ls hl => ?_)
  refine lv_iconst (v := 0) hx hb dX5_missing_2 (by decide) ?_
  refine lv_istore_n (lv' := [(2, .int (0 : Int32)), (1, .int (0 : Int32)), (0, .ref (A 0))]) hx hb dX5_missing_3 rfl hl (by decide) rfl (fun ls hl => ?_)
  refine lp_ind (P := fun (q4 : Int32 × Int32) => ∀ (H : Heap) (locs : List Loc) (ls : Array Slot), va_P D vwCl (cM cI A M) H → va_D AA (cM cI A M) → va_S AA s.heap H locs → lv_has ls 3 [(0, .ref (A 0)), (1, .int q4.1), (2, .int q4.2)] → W p l e rm_X5_missing s m args below meth c H locs 0 0 Q (F0 m 4 ls [])) hf ?_ H locs ls hP hD hS (lv_sub hl [2, 1, 0] rfl)
  clear hf hP hD hS hl
  intro nx4 ih4 q4 hf H locs ls hP hD hS hl
  refine lv_iload_n hx hb dX5_missing_4 rfl (lv_at hl 2 rfl) ?_
  refine lv_aload_n hx hb dX5_missing_5 rfl (lv_at hl 0 rfl) ?_
  refine va_get (D := D) (ci := 5) (v := .int (M 16 0)) (C := RX5) (T := TX5) (N := 27) hx hb hts hw5 hown hK hP 0 cM_at0 rfl 8 (by decide) k58 (fun _ h9 => h9) rfl dX5_missing_6 ?_
  refine lv_icmp_ge (tgt := 58) hx hb dX5_missing_9 (by decide) (fun c_1 => ?_) (fun c_1 => ?_)
  · replace hf := if_t c_1 hf
    refine lv_iload_n hx hb dX5_missing_58 rfl (lv_at hl 1 rfl) ?_
    exact hend q4.1 H locs _ _ hf hP hS dX5_missing_59
  · replace hf := if_f c_1 hf
    refine lv_iload_n hx hb dX5_missing_12 rfl (lv_at hl 1 rfl) ?_
    refine lv_aload_n hx hb dX5_missing_13 rfl (lv_at hl 0 rfl) ?_
    refine va_get (D := D) (ci := 5) (v := .ref (A 4)) (C := RX5) (T := TX5) (N := 27) hx hb hts hw5 hown hK hP 0 cM_at0 rfl 3 (by decide) k19 (fun _ h9 => h9) rfl dX5_missing_14 ?_
    refine lv_iload_n hx hb dX5_missing_17 rfl (lv_at hl 2 rfl) ?_
    obtain ⟨c_2, hf⟩ := gi_e hf
    refine va_iald hx hb hK hP 4 0 cM_at4 rfl c_2 dX5_missing_18 ?_
    refine lv_if_ne (tgt := 49) hx hb dX5_missing_19 (by decide) (fun c_3 => ?_) (fun c_3 => ?_)
    · replace hf := if_f c_3 hf
      refine lv_iconst (v := 0) hx hb dX5_missing_49 (by decide) ?_
      refine lv_iadd hx hb dX5_missing_50 ?_
      refine lv_topi (fun v_4 ev_4 => ?_)
      replace hf := nm_at ev_4 hf
      refine lv_istore_n (lv' := [(1, .int v_4), (0, .ref (A 0)), (2, .int q4.2)]) hx hb dX5_missing_51 rfl hl (by decide) rfl (fun ls hl => ?_)
      obtain ⟨v_5, ev_5, hf⟩ := nq_e hf
      refine lv_iinc (v := v_5) (lv' := [(2, .int v_5), (1, .int v_4), (0, .ref (A 0))]) hx hb dX5_missing_52 hl (k := 2) rfl (by rw [ev_5]; rfl) (by decide) rfl (fun ls hl => ?_)
      refine lv_goto (tgt := 4) hx hb dX5_missing_55 (by decide) ?_
      exact ih4 (v_4, v_5) hf H locs ls hP hD hS (lv_sub hl [2, 1, 0] rfl)
    · replace hf := if_t c_3 hf
      refine lv_aload_n hx hb dX5_missing_22 rfl (lv_at hl 0 rfl) ?_
      refine lv_iload_n hx hb dX5_missing_23 rfl (lv_at hl 2 rfl) ?_
      obtain ⟨a_6, ha_6, hf⟩ := bd_e hf
      refine Ct.callV (As := [.int q4.2]) (rest := [.int q4.1]) (st1 := [.int a_6, .int q4.1]) (c_X5_lacks l D cI A M q4.2 a_6 ha_6) hx hb hml hown hts (cwV 1 hts gX5_missing_X5_lacks rfl rfl rfl hd_X5_lacks ⟨Nat.le_of_ble_eq_true rfl, Nat.le_of_ble_eq_true rfl⟩) (va_recv hK hP (ci := 5) (q0 := 0) rfl cM_at0) (Ln.id rfl) hA hK hP hD hS rfl hl.1 rfl rfl (Nat.le_of_ble_eq_true rfl) dX5_missing_24 (fun H locs hP hD hS => ?_)
      refine lv_aload_n hx hb dX5_missing_27 rfl (lv_at hl 0 rfl) ?_
      refine lv_iload_n hx hb dX5_missing_28 rfl (lv_at hl 2 rfl) ?_
      obtain ⟨a_7, ha_7, hf⟩ := bd_e hf
      refine Ct.callV (As := [.int q4.2]) (rest := [.int a_6, .int q4.1]) (st1 := [.int a_7, .int a_6, .int q4.1]) (c_X5_pool l D cI A M q4.2 a_7 ha_7) hx hb hml hown hts (cwV 1 hts gX5_missing_X5_pool rfl rfl rfl hd_X5_pool ⟨Nat.le_of_ble_eq_true rfl, Nat.le_of_ble_eq_true rfl⟩) (va_recv hK hP (ci := 5) (q0 := 0) rfl cM_at0) (Ln.id rfl) hA hK hP hD hS rfl hl.1 rfl rfl (Nat.le_of_ble_eq_true rfl) dX5_missing_29 (fun H locs hP hD hS => ?_)
      refine lv_icmp_le (tgt := 49) hx hb dX5_missing_32 (by decide) (fun c_8 => ?_) (fun c_8 => ?_)
      · replace hf := if_t c_8 hf
        refine lv_iconst (v := 0) hx hb dX5_missing_49 (by decide) ?_
        refine lv_iadd hx hb dX5_missing_50 ?_
        refine lv_topi (fun v_9 ev_9 => ?_)
        replace hf := nm_at ev_9 hf
        refine lv_istore_n (lv' := [(1, .int v_9), (0, .ref (A 0)), (2, .int q4.2)]) hx hb dX5_missing_51 rfl hl (by decide) rfl (fun ls hl => ?_)
        obtain ⟨v_10, ev_10, hf⟩ := nq_e hf
        refine lv_iinc (v := v_10) (lv' := [(2, .int v_10), (1, .int v_9), (0, .ref (A 0))]) hx hb dX5_missing_52 hl (k := 2) rfl (by rw [ev_10]; rfl) (by decide) rfl (fun ls hl => ?_)
        refine lv_goto (tgt := 4) hx hb dX5_missing_55 (by decide) ?_
        exact ih4 (v_9, v_10) hf H locs ls hP hD hS (lv_sub hl [2, 1, 0] rfl)
      · replace hf := if_f c_8 hf
        refine lv_aload_n hx hb dX5_missing_35 rfl (lv_at hl 0 rfl) ?_
        refine lv_iload_n hx hb dX5_missing_36 rfl (lv_at hl 2 rfl) ?_
        obtain ⟨a_11, ha_11, hf⟩ := bd_e hf
        refine Ct.callV (As := [.int q4.2]) (rest := [.int q4.1]) (st1 := [.int a_11, .int q4.1]) (c_X5_lacks l D cI A M q4.2 a_11 ha_11) hx hb hml hown hts (cwV 1 hts gX5_missing_X5_lacks rfl rfl rfl hd_X5_lacks ⟨Nat.le_of_ble_eq_true rfl, Nat.le_of_ble_eq_true rfl⟩) (va_recv hK hP (ci := 5) (q0 := 0) rfl cM_at0) (Ln.id rfl) hA hK hP hD hS rfl hl.1 rfl rfl (Nat.le_of_ble_eq_true rfl) dX5_missing_37 (fun H locs hP hD hS => ?_)
        refine lv_aload_n hx hb dX5_missing_40 rfl (lv_at hl 0 rfl) ?_
        refine lv_iload_n hx hb dX5_missing_41 rfl (lv_at hl 2 rfl) ?_
        obtain ⟨a_12, ha_12, hf⟩ := bd_e hf
        refine Ct.callV (As := [.int q4.2]) (rest := [.int a_11, .int q4.1]) (st1 := [.int a_12, .int a_11, .int q4.1]) (c_X5_pool l D cI A M q4.2 a_12 ha_12) hx hb hml hown hts (cwV 1 hts gX5_missing_X5_pool rfl rfl rfl hd_X5_pool ⟨Nat.le_of_ble_eq_true rfl, Nat.le_of_ble_eq_true rfl⟩) (va_recv hK hP (ci := 5) (q0 := 0) rfl cM_at0) (Ln.id rfl) hA hK hP hD hS rfl hl.1 rfl rfl (Nat.le_of_ble_eq_true rfl) dX5_missing_42 (fun H locs hP hD hS => ?_)
        refine lv_isub hx hb dX5_missing_45 ?_
        refine lv_goto (tgt := 50) hx hb dX5_missing_46 (by decide) ?_
        refine lv_iadd hx hb dX5_missing_50 ?_
        refine lv_topi (fun v_13 ev_13 => ?_)
        replace hf := nm_at ev_13 hf
        refine lv_istore_n (lv' := [(1, .int v_13), (0, .ref (A 0)), (2, .int q4.2)]) hx hb dX5_missing_51 rfl hl (by decide) rfl (fun ls hl => ?_)
        obtain ⟨v_14, ev_14, hf⟩ := nq_e hf
        refine lv_iinc (v := v_14) (lv' := [(2, .int v_14), (1, .int v_13), (0, .ref (A 0))]) hx hb dX5_missing_52 hl (k := 2) rfl (by rw [ev_14]; rfl) (by decide) rfl (fun ls hl => ?_)
        refine lv_goto (tgt := 4) hx hb dX5_missing_55 (by decide) ?_
        exact ih4 (v_13, v_14) hf H locs ls hP hD hS (lv_sub hl [2, 1, 0] rfl)

def rm_X5_toldBy : Room := { frames := 4, cells := 0, slots := 0, locals := 88 }
theorem hd_X5_toldBy : yX5_toldBy.cls = RX5 ∧ yX5_toldBy.cls ≠ "java/lang/invoke/MethodHandle" ∧ yX5_toldBy.cls ≠ "java/lang/invoke/VarHandle" ∧ (parseMethodDescriptor yX5_toldBy.desc).map (fun d => d.parameters.length) = some 2 := by decide +kernel
set_option maxRecDepth 100000 in
set_option maxHeartbeats 4000000 in
theorem c_X5_toldBy (l : Launch) (D : va_G) (cI : ClassId) (A : Nat → Nat) (M : St) (p1 : Int32) (p2 : Int32) (r : Int32 × St) (hf : f_X5_toldBy M p1 p2 = some r) : Ct l yX5_toldBy wsX5_toldBy rm_X5_toldBy D cI (cM cI A M) (cM cI A r.2) [.ref (A 0), .int p1, .int p2] (some (.int r.1)) := by
  unfold f_X5_toldBy at hf
  refine Ct.ofI (cc := cX5_toldBy) (maxL := 3) (by decide +kernel) rfl (Nat.le_of_ble_eq_true rfl) ?_
  intro p e s m args below meth c AA Q H locs ls hx hb hml hown hts hA hK hP hD hS hl hend0
  have hend : ∀ (r1 : Int32 × St) (H : Heap) (locs : List Loc) (pc : Nat) (ls : Array Slot), some r1 = some r → va_P D vwCl (cM cI A r1.2) H → va_S AA s.heap H locs → decode cX5_toldBy pc = .ok (.ireturn, 1) → W p l e rm_X5_toldBy s m args below meth c H locs 0 0 Q (F0 m pc ls [.int r1.1]) := by
    intro r1 H locs pc ls e1 hP hS hd; cases e1; exact hend0 H locs pc ls hP hS hd
  clear hend0
  replace hl : lv_has ls 3 [(0, .ref (A 0)), (1, .int p1), (2, .int p2)] := hl
  refine lv_iload_n hx hb dX5_toldBy_0 rfl (lv_at hl 2 rfl) ?_
  refine lv_if_eq (tgt := 12) hx hb dX5_toldBy_1 (by decide) (fun c_1 => ?_) (fun c_1 => ?_)
  · replace hf := if_t c_1 hf
    refine lv_iconst (v := 0) hx hb dX5_toldBy_12 (by decide) ?_
    exact hend ((0 : Int32), M) H locs _ _ hf hP hS dX5_toldBy_13
  · replace hf := if_f c_1 hf
    refine lv_aload_n hx hb dX5_toldBy_4 rfl (lv_at hl 0 rfl) ?_
    refine lv_iload_n hx hb dX5_toldBy_5 rfl (lv_at hl 1 rfl) ?_
    obtain ⟨a_2, ha_2, hf⟩ := bd_e hf
    refine Ct.callV (As := [.int p1]) (rest := []) (st1 := [.int a_2]) (c_X5_canTell l D cI A M p1 a_2 ha_2) hx hb hml hown hts (cwV 1 hts gX5_toldBy_X5_canTell rfl rfl rfl hd_X5_canTell ⟨Nat.le_of_ble_eq_true rfl, Nat.le_of_ble_eq_true rfl⟩) (va_recv hK hP (ci := 5) (q0 := 0) rfl cM_at0) (Ln.id rfl) hA hK hP hD hS rfl hl.1 rfl rfl (Nat.le_of_ble_eq_true rfl) dX5_toldBy_6 (fun H locs hP hD hS => ?_)
    refine lv_if_ne (tgt := 14) hx hb dX5_toldBy_9 (by decide) (fun c_3 => ?_) (fun c_3 => ?_)
    · replace hf := if_f c_3 hf
      refine lv_aload_n hx hb dX5_toldBy_14 rfl (lv_at hl 0 rfl) ?_
      refine lv_iload_n hx hb dX5_toldBy_15 rfl (lv_at hl 1 rfl) ?_
      obtain ⟨a_4, ha_4, hf⟩ := bd_e hf
      refine Ct.callV (As := [.int p1]) (rest := []) (st1 := [.int a_4.1]) (c_X5_tellsOne l D cI A M p1 a_4 ha_4) hx hb hml hown hts (cwV 1 hts gX5_toldBy_X5_tellsOne rfl rfl rfl hd_X5_tellsOne ⟨Nat.le_of_ble_eq_true rfl, Nat.le_of_ble_eq_true rfl⟩) (va_recv hK hP (ci := 5) (q0 := 0) rfl cM_at0) (Ln.id rfl) hA hK hP hD hS rfl hl.1 rfl rfl (Nat.le_of_ble_eq_true rfl) dX5_toldBy_16 (fun H locs hP hD hS => ?_)
      replace hP : va_P D vwCl (cM cI A a_4.2) H := hP
      replace hD : va_D AA (cM cI A a_4.2) := hD
      refine lv_pop hx hb dX5_toldBy_19 rfl ?_
      refine lv_iconst (v := 1) hx hb dX5_toldBy_20 (by decide) ?_
      exact hend ((1 : Int32), a_4.2) H locs _ _ hf hP hS dX5_toldBy_21
    · replace hf := if_t c_3 hf
      refine lv_iconst (v := 0) hx hb dX5_toldBy_12 (by decide) ?_
      exact hend ((0 : Int32), M) H locs _ _ hf hP hS dX5_toldBy_13

def rm_X5_findGets : Room := { frames := 5, cells := 0, slots := 0, locals := 110 }
theorem hd_X5_findGets : yX5_findGets.cls = RX5 ∧ yX5_findGets.cls ≠ "java/lang/invoke/MethodHandle" ∧ yX5_findGets.cls ≠ "java/lang/invoke/VarHandle" ∧ (parseMethodDescriptor yX5_findGets.desc).map (fun d => d.parameters.length) = some 2 := by decide +kernel
set_option maxRecDepth 100000 in
set_option maxHeartbeats 4000000 in
theorem c_X5_findGets (l : Launch) (D : va_G) (cI : ClassId) (A : Nat → Nat) (M : St) (p1 : Int32) (p2 : Int32) (r : St) (hf : f_X5_findGets M p1 p2 = some r) : Ct l yX5_findGets wsX5_findGets rm_X5_findGets D cI (cM cI A M) (cM cI A r) [.ref (A 0), .int p1, .int p2] none := by
  unfold f_X5_findGets at hf
  refine Ct.ofV (cc := cX5_findGets) (maxL := 6) (by decide +kernel) rfl (Nat.le_of_ble_eq_true rfl) ?_
  intro p e s m args below meth c AA Q H locs ls hx hb hml hown hts hA hK hP hD hS hl hend0
  have hend : ∀ (r1 : St) (H : Heap) (locs : List Loc) (pc : Nat) (ls : Array Slot), some r1 = some r → va_P D vwCl (cM cI A r1) H → va_S AA s.heap H locs → decode cX5_findGets pc = .ok (.return_, 1) → W p l e rm_X5_findGets s m args below meth c H locs 0 0 Q (F0 m pc ls []) := by
    intro r1 H locs pc ls e1 hP hS hd; cases e1; exact hend0 H locs pc ls hP hS hd
  clear hend0
  have hw5 : ∀ w ∈ wsX50, w ∈ wsX5_findGets := by decide +kernel
  have k19 := hts (.fieldLink RX5 19 "AnchorsForConfessionModel" "out" "[I") (by decide +kernel)
  have k31 := hts (.fieldLink RX5 31 "AnchorsForConfessionModel" "aboard" "[I") (by decide +kernel)
  have k52 := hts (.fieldLink RX5 52 "AnchorsForConfessionModel" "gets" "[I") (by decide +kernel)
  replace hl : lv_has ls 6 [(0, .ref (A 0)), (1, .int p1), (2, .int p2)] := hl
  refine lv_iconst (v := 0) hx hb dX5_findGets_0 (by decide) ?_
  refine lv_istore_n (lv' := [(3, .int (0 : Int32)), (0, .ref (A 0)), (1, .int p1), (2, .int p2)]) hx hb dX5_findGets_1 rfl hl (by decide) rfl (fun ls hl => ?_)
  refine lp_ind (P := fun (q2 : Int32 × St) => ∀ (H : Heap) (locs : List Loc) (ls : Array Slot), va_P D vwCl (cM cI A q2.2) H → va_D AA (cM cI A q2.2) → va_S AA s.heap H locs → lv_has ls 6 [(0, .ref (A 0)), (1, .int p1), (2, .int p2), (3, .int q2.1)] → W p l e rm_X5_findGets s m args below meth c H locs 0 0 Q (F0 m 2 ls [])) hf ?_ H locs ls hP hD hS (lv_sub hl [1, 2, 3, 0] rfl)
  clear hf hP hD hS hl
  intro nx2 ih2 q2 hf H locs ls hP hD hS hl
  refine lv_iload_n hx hb dX5_findGets_2 rfl (lv_at hl 3 rfl) ?_
  refine lv_iconst (v := 4) hx hb dX5_findGets_3 (by decide) ?_
  refine lv_icmp_ge (tgt := 103) hx hb dX5_findGets_4 (by decide) (fun c_1 => ?_) (fun c_1 => ?_)
  · replace hf := if_t c_1 hf
    exact hend q2.2 H locs _ _ hf hP hS dX5_findGets_103
  · replace hf := if_f c_1 hf
    refine lv_aload_n hx hb dX5_findGets_7 rfl (lv_at hl 0 rfl) ?_
    obtain ⟨a_2, ha_2, hf⟩ := bd_e hf
    refine Ct.callV (As := []) (rest := []) (st1 := []) (c_X5_thinks l D cI A q2.2 a_2 ha_2) hx hb hml hown hts (cwV 0 hts gX5_findGets_X5_thinks rfl rfl rfl hd_X5_thinks ⟨Nat.le_of_ble_eq_true rfl, Nat.le_of_ble_eq_true rfl⟩) (va_recv hK hP (ci := 5) (q0 := 0) rfl cM_at0) (Ln.id rfl) hA hK hP hD hS rfl hl.1 rfl rfl (Nat.le_of_ble_eq_true rfl) dX5_findGets_8 (fun H locs hP hD hS => ?_)
    replace hP : va_P D vwCl (cM cI A a_2) H := hP
    replace hD : va_D AA (cM cI A a_2) := hD
    refine lv_aload_n hx hb dX5_findGets_11 rfl (lv_at hl 0 rfl) ?_
    refine lv_iload_n hx hb dX5_findGets_12 rfl (lv_at hl 1 rfl) ?_
    refine lv_iload_n hx hb dX5_findGets_13 rfl (lv_at hl 3 rfl) ?_
    refine lv_iconst (v := 2) hx hb dX5_findGets_14 (by decide) ?_
    refine lv_idiv hx hb dX5_findGets_15 (by decide) ?_
    obtain ⟨a_4, ha_4, hf⟩ := bd_e hf
    refine Ct.callV (As := [.int p1, .int (q2.1 / (2 : Int32))]) (rest := []) (st1 := [.int a_4.1]) (c_X5_toldBy l D cI A a_2 p1 (q2.1 / (2 : Int32)) a_4 ha_4) hx hb hml hown hts (cwV 2 hts gX5_findGets_X5_toldBy rfl rfl rfl hd_X5_toldBy ⟨Nat.le_of_ble_eq_true rfl, Nat.le_of_ble_eq_true rfl⟩) (va_recv hK hP (ci := 5) (q0 := 0) rfl cM_at0) (Ln.id rfl) hA hK hP hD hS rfl hl.1 rfl rfl (Nat.le_of_ble_eq_true rfl) dX5_findGets_16 (fun H locs hP hD hS => ?_)
    replace hP : va_P D vwCl (cM cI A a_4.2) H := hP
    replace hD : va_D AA (cM cI A a_4.2) := hD
    refine lv_istore (lv' := [(4, .int a_4.1), (0, .ref (A 0)), (1, .int p1), (2, .int p2), (3, .int q2.1)]) hx hb dX5_findGets_19 hl (by decide) rfl (fun ls hl => ?_)
    refine lv_aload_n hx hb dX5_findGets_21 rfl (lv_at hl 1 rfl) ?_
    refine lv_iload_n hx hb dX5_findGets_22 rfl (lv_at hl 3 rfl) ?_
    refine lv_iload_n hx hb dX5_findGets_23 rfl (lv_at hl 4 rfl) ?_
    refine lv_iconst (v := 2) hx hb dX5_findGets_24 (by decide) ?_
    refine lv_irem hx hb dX5_findGets_25 (by decide) ?_
    obtain ⟨a_6, ha_6, hf⟩ := bd_e hf
    refine Ct.callV (As := [.int p2, .int (q2.1 - q2.1 / (2 : Int32) * (2 : Int32))]) (rest := []) (st1 := [.int a_6.1]) (c_X5_toldBy l D cI A a_4.2 p2 (q2.1 - q2.1 / (2 : Int32) * (2 : Int32)) a_6 ha_6) hx hb hml hown hts (cwV 2 hts gX5_findGets_X5_toldBy rfl rfl rfl hd_X5_toldBy ⟨Nat.le_of_ble_eq_true rfl, Nat.le_of_ble_eq_true rfl⟩) (va_recv hK hP (ci := 5) (q0 := 0) rfl cM_at0) (Ln.id rfl) hA hK hP hD hS rfl hl.1 rfl rfl (Nat.le_of_ble_eq_true rfl) dX5_findGets_26 (fun H locs hP hD hS => ?_)
    replace hP : va_P D vwCl (cM cI A a_6.2) H := hP
    replace hD : va_D AA (cM cI A a_6.2) := hD
    refine lv_istore (lv' := [(5, .int a_6.1), (4, .int a_4.1), (0, .ref (A 0)), (1, .int p1), (2, .int p2), (3, .int q2.1)]) hx hb dX5_findGets_29 hl (by decide) rfl (fun ls hl => ?_)
    refine lv_aload_n hx hb dX5_findGets_31 rfl (lv_at hl 2 rfl) ?_
    refine va_get (D := D) (ci := 5) (v := .ref (A 15)) (C := RX5) (T := TX5) (N := 27) hx hb hts hw5 hown hK hP 0 cM_at0 rfl 24 (by decide) k52 (fun _ h9 => h9) rfl dX5_findGets_32 ?_
    refine lv_iconst (v := 2) hx hb dX5_findGets_35 (by decide) ?_
    refine lv_iload_n hx hb dX5_findGets_36 rfl (lv_at hl 5 rfl) ?_
    refine lv_imul hx hb dX5_findGets_37 ?_
    refine lv_aload_n hx hb dX5_findGets_38 rfl (lv_at hl 2 rfl) ?_
    refine va_get (D := D) (ci := 5) (v := .ref (A 4)) (C := RX5) (T := TX5) (N := 27) hx hb hts hw5 hown hK hP 0 cM_at0 rfl 3 (by decide) k19 (fun _ h9 => h9) rfl dX5_findGets_39 ?_
    refine lv_aload_n hx hb dX5_findGets_42 rfl (lv_at hl 2 rfl) ?_
    refine va_get (D := D) (ci := 5) (v := .ref (A 8)) (C := RX5) (T := TX5) (N := 27) hx hb hts hw5 hown hK hP 0 cM_at0 rfl 7 (by decide) k31 (fun _ h9 => h9) rfl dX5_findGets_43 ?_
    refine lv_iload_n hx hb dX5_findGets_46 rfl (lv_at hl 3 rfl) ?_
    obtain ⟨c_7, hf⟩ := gi_e hf
    refine va_iald hx hb hK hP 8 0 cM_at8 rfl c_7 dX5_findGets_47 ?_
    obtain ⟨c_8, hf⟩ := gi_e hf
    refine va_iald hx hb hK hP 4 0 cM_at4 rfl c_8 dX5_findGets_48 ?_
    refine lv_if_le (tgt := 56) hx hb dX5_findGets_49 (by decide) (fun c_9 => ?_) (fun c_9 => ?_)
    · replace hf := if_t c_9 hf
      refine lv_iconst (v := 0) hx hb dX5_findGets_56 (by decide) ?_
      refine lv_iload hx hb dX5_findGets_57 (lv_at hl 1 rfl) ?_
      refine lv_isub hx hb dX5_findGets_59 ?_
      obtain ⟨c_10, hf⟩ := gi_e hf
      refine va_iast hx hb hK hP hD hS 15 0 cM_at15 rfl c_10 dX5_findGets_60 (fun H locs hP hD hS => ?_)
      obtain ⟨h_11, eh_11, hf⟩ := nq_e hf
      rw [cM_su15, ← eh_11] at hP hD
      refine lv_aload_n hx hb dX5_findGets_61 rfl (lv_at hl 2 rfl) ?_
      refine va_get (D := D) (ci := 5) (v := .ref (A 15)) (C := RX5) (T := TX5) (N := 27) hx hb hts hw5 hown hK hP 0 cM_at0 rfl 24 (by decide) k52 (fun _ h9 => h9) rfl dX5_findGets_62 ?_
      refine lv_iconst (v := 2) hx hb dX5_findGets_65 (by decide) ?_
      refine lv_iload_n hx hb dX5_findGets_66 rfl (lv_at hl 5 rfl) ?_
      refine lv_imul hx hb dX5_findGets_67 ?_
      refine lv_iconst (v := 1) hx hb dX5_findGets_68 (by decide) ?_
      refine lv_iadd hx hb dX5_findGets_69 ?_
      refine lv_aload_n hx hb dX5_findGets_70 rfl (lv_at hl 2 rfl) ?_
      refine va_get (D := D) (ci := 5) (v := .ref (A 4)) (C := RX5) (T := TX5) (N := 27) hx hb hts hw5 hown hK hP 0 cM_at0 rfl 3 (by decide) k19 (fun _ h9 => h9) rfl dX5_findGets_71 ?_
      refine lv_aload_n hx hb dX5_findGets_74 rfl (lv_at hl 2 rfl) ?_
      refine va_get (D := D) (ci := 5) (v := .ref (A 8)) (C := RX5) (T := TX5) (N := 27) hx hb hts hw5 hown hK hP 0 cM_at0 rfl 7 (by decide) k31 (fun _ h9 => h9) rfl dX5_findGets_75 ?_
      refine lv_iload_n hx hb dX5_findGets_78 rfl (lv_at hl 4 rfl) ?_
      obtain ⟨c_12, hf⟩ := gi_e hf
      refine va_iald hx hb hK hP 8 0 cM_at8 rfl c_12 dX5_findGets_79 ?_
      obtain ⟨c_13, hf⟩ := gi_e hf
      refine va_iald hx hb hK hP 4 0 cM_at4 rfl c_13 dX5_findGets_80 ?_
      refine lv_if_le (tgt := 88) hx hb dX5_findGets_81 (by decide) (fun c_14 => ?_) (fun c_14 => ?_)
      · replace hf := if_t c_14 hf
        refine lv_iconst (v := 0) hx hb dX5_findGets_88 (by decide) ?_
        refine lv_iload hx hb dX5_findGets_89 (lv_at hl 0 rfl) ?_
        refine lv_isub hx hb dX5_findGets_91 ?_
        obtain ⟨c_15, hf⟩ := gi_e hf
        refine va_iast hx hb hK hP hD hS 15 0 cM_at15 rfl c_15 dX5_findGets_92 (fun H locs hP hD hS => ?_)
        obtain ⟨h_16, eh_16, hf⟩ := nq_e hf
        rw [cM_su15, ← eh_16] at hP hD
        refine lv_aload_n hx hb dX5_findGets_93 rfl (lv_at hl 2 rfl) ?_
        obtain ⟨a_17, ha_17, hf⟩ := bd_e hf
        refine Ct.callV (As := []) (rest := []) (st1 := []) (c_X5_forgets l D cI A h_16 a_17 ha_17) hx hb hml hown hts (cwV 0 hts gX5_findGets_X5_forgets rfl rfl rfl hd_X5_forgets ⟨Nat.le_of_ble_eq_true rfl, Nat.le_of_ble_eq_true rfl⟩) (va_recv hK hP (ci := 5) (q0 := 0) rfl cM_at0) (Ln.id rfl) hA hK hP hD hS rfl hl.1 rfl rfl (Nat.le_of_ble_eq_true rfl) dX5_findGets_94 (fun H locs hP hD hS => ?_)
        replace hP : va_P D vwCl (cM cI A a_17) H := hP
        replace hD : va_D AA (cM cI A a_17) := hD
        obtain ⟨v_18, ev_18, hf⟩ := nq_e hf
        refine lv_iinc (v := v_18) (lv' := [(3, .int v_18), (5, .int a_6.1), (4, .int a_4.1), (0, .ref (A 0)), (1, .int p1), (2, .int p2)]) hx hb dX5_findGets_97 hl (k := 5) rfl (by rw [ev_18]; rfl) (by decide) rfl (fun ls hl => ?_)
        refine lv_goto (tgt := 2) hx hb dX5_findGets_100 (by decide) ?_
        exact ih2 (v_18, a_17) hf H locs ls hP hD hS (lv_sub hl [3, 4, 5, 0] rfl)
      · replace hf := if_f c_14 hf
        refine lv_iconst (v := 3) hx hb dX5_findGets_84 (by decide) ?_
        refine lv_goto (tgt := 89) hx hb dX5_findGets_85 (by decide) ?_
        refine lv_iload hx hb dX5_findGets_89 (lv_at hl 0 rfl) ?_
        refine lv_isub hx hb dX5_findGets_91 ?_
        obtain ⟨c_19, hf⟩ := gi_e hf
        refine va_iast hx hb hK hP hD hS 15 0 cM_at15 rfl c_19 dX5_findGets_92 (fun H locs hP hD hS => ?_)
        obtain ⟨h_20, eh_20, hf⟩ := nq_e hf
        rw [cM_su15, ← eh_20] at hP hD
        refine lv_aload_n hx hb dX5_findGets_93 rfl (lv_at hl 2 rfl) ?_
        obtain ⟨a_21, ha_21, hf⟩ := bd_e hf
        refine Ct.callV (As := []) (rest := []) (st1 := []) (c_X5_forgets l D cI A h_20 a_21 ha_21) hx hb hml hown hts (cwV 0 hts gX5_findGets_X5_forgets rfl rfl rfl hd_X5_forgets ⟨Nat.le_of_ble_eq_true rfl, Nat.le_of_ble_eq_true rfl⟩) (va_recv hK hP (ci := 5) (q0 := 0) rfl cM_at0) (Ln.id rfl) hA hK hP hD hS rfl hl.1 rfl rfl (Nat.le_of_ble_eq_true rfl) dX5_findGets_94 (fun H locs hP hD hS => ?_)
        replace hP : va_P D vwCl (cM cI A a_21) H := hP
        replace hD : va_D AA (cM cI A a_21) := hD
        obtain ⟨v_22, ev_22, hf⟩ := nq_e hf
        refine lv_iinc (v := v_22) (lv' := [(3, .int v_22), (5, .int a_6.1), (4, .int a_4.1), (0, .ref (A 0)), (1, .int p1), (2, .int p2)]) hx hb dX5_findGets_97 hl (k := 5) rfl (by rw [ev_22]; rfl) (by decide) rfl (fun ls hl => ?_)
        refine lv_goto (tgt := 2) hx hb dX5_findGets_100 (by decide) ?_
        exact ih2 (v_22, a_21) hf H locs ls hP hD hS (lv_sub hl [3, 4, 5, 0] rfl)
    · replace hf := if_f c_9 hf
      refine lv_iconst (v := 3) hx hb dX5_findGets_52 (by decide) ?_
      refine lv_goto (tgt := 57) hx hb dX5_findGets_53 (by decide) ?_
      refine lv_iload hx hb dX5_findGets_57 (lv_at hl 1 rfl) ?_
      refine lv_isub hx hb dX5_findGets_59 ?_
      obtain ⟨c_23, hf⟩ := gi_e hf
      refine va_iast hx hb hK hP hD hS 15 0 cM_at15 rfl c_23 dX5_findGets_60 (fun H locs hP hD hS => ?_)
      obtain ⟨h_24, eh_24, hf⟩ := nq_e hf
      rw [cM_su15, ← eh_24] at hP hD
      refine lv_aload_n hx hb dX5_findGets_61 rfl (lv_at hl 2 rfl) ?_
      refine va_get (D := D) (ci := 5) (v := .ref (A 15)) (C := RX5) (T := TX5) (N := 27) hx hb hts hw5 hown hK hP 0 cM_at0 rfl 24 (by decide) k52 (fun _ h9 => h9) rfl dX5_findGets_62 ?_
      refine lv_iconst (v := 2) hx hb dX5_findGets_65 (by decide) ?_
      refine lv_iload_n hx hb dX5_findGets_66 rfl (lv_at hl 5 rfl) ?_
      refine lv_imul hx hb dX5_findGets_67 ?_
      refine lv_iconst (v := 1) hx hb dX5_findGets_68 (by decide) ?_
      refine lv_iadd hx hb dX5_findGets_69 ?_
      refine lv_aload_n hx hb dX5_findGets_70 rfl (lv_at hl 2 rfl) ?_
      refine va_get (D := D) (ci := 5) (v := .ref (A 4)) (C := RX5) (T := TX5) (N := 27) hx hb hts hw5 hown hK hP 0 cM_at0 rfl 3 (by decide) k19 (fun _ h9 => h9) rfl dX5_findGets_71 ?_
      refine lv_aload_n hx hb dX5_findGets_74 rfl (lv_at hl 2 rfl) ?_
      refine va_get (D := D) (ci := 5) (v := .ref (A 8)) (C := RX5) (T := TX5) (N := 27) hx hb hts hw5 hown hK hP 0 cM_at0 rfl 7 (by decide) k31 (fun _ h9 => h9) rfl dX5_findGets_75 ?_
      refine lv_iload_n hx hb dX5_findGets_78 rfl (lv_at hl 4 rfl) ?_
      obtain ⟨c_25, hf⟩ := gi_e hf
      refine va_iald hx hb hK hP 8 0 cM_at8 rfl c_25 dX5_findGets_79 ?_
      obtain ⟨c_26, hf⟩ := gi_e hf
      refine va_iald hx hb hK hP 4 0 cM_at4 rfl c_26 dX5_findGets_80 ?_
      refine lv_if_le (tgt := 88) hx hb dX5_findGets_81 (by decide) (fun c_27 => ?_) (fun c_27 => ?_)
      · replace hf := if_t c_27 hf
        refine lv_iconst (v := 0) hx hb dX5_findGets_88 (by decide) ?_
        refine lv_iload hx hb dX5_findGets_89 (lv_at hl 0 rfl) ?_
        refine lv_isub hx hb dX5_findGets_91 ?_
        obtain ⟨c_28, hf⟩ := gi_e hf
        refine va_iast hx hb hK hP hD hS 15 0 cM_at15 rfl c_28 dX5_findGets_92 (fun H locs hP hD hS => ?_)
        obtain ⟨h_29, eh_29, hf⟩ := nq_e hf
        rw [cM_su15, ← eh_29] at hP hD
        refine lv_aload_n hx hb dX5_findGets_93 rfl (lv_at hl 2 rfl) ?_
        obtain ⟨a_30, ha_30, hf⟩ := bd_e hf
        refine Ct.callV (As := []) (rest := []) (st1 := []) (c_X5_forgets l D cI A h_29 a_30 ha_30) hx hb hml hown hts (cwV 0 hts gX5_findGets_X5_forgets rfl rfl rfl hd_X5_forgets ⟨Nat.le_of_ble_eq_true rfl, Nat.le_of_ble_eq_true rfl⟩) (va_recv hK hP (ci := 5) (q0 := 0) rfl cM_at0) (Ln.id rfl) hA hK hP hD hS rfl hl.1 rfl rfl (Nat.le_of_ble_eq_true rfl) dX5_findGets_94 (fun H locs hP hD hS => ?_)
        replace hP : va_P D vwCl (cM cI A a_30) H := hP
        replace hD : va_D AA (cM cI A a_30) := hD
        obtain ⟨v_31, ev_31, hf⟩ := nq_e hf
        refine lv_iinc (v := v_31) (lv' := [(3, .int v_31), (5, .int a_6.1), (4, .int a_4.1), (0, .ref (A 0)), (1, .int p1), (2, .int p2)]) hx hb dX5_findGets_97 hl (k := 5) rfl (by rw [ev_31]; rfl) (by decide) rfl (fun ls hl => ?_)
        refine lv_goto (tgt := 2) hx hb dX5_findGets_100 (by decide) ?_
        exact ih2 (v_31, a_30) hf H locs ls hP hD hS (lv_sub hl [3, 4, 5, 0] rfl)
      · replace hf := if_f c_27 hf
        refine lv_iconst (v := 3) hx hb dX5_findGets_84 (by decide) ?_
        refine lv_goto (tgt := 89) hx hb dX5_findGets_85 (by decide) ?_
        refine lv_iload hx hb dX5_findGets_89 (lv_at hl 0 rfl) ?_
        refine lv_isub hx hb dX5_findGets_91 ?_
        obtain ⟨c_32, hf⟩ := gi_e hf
        refine va_iast hx hb hK hP hD hS 15 0 cM_at15 rfl c_32 dX5_findGets_92 (fun H locs hP hD hS => ?_)
        obtain ⟨h_33, eh_33, hf⟩ := nq_e hf
        rw [cM_su15, ← eh_33] at hP hD
        refine lv_aload_n hx hb dX5_findGets_93 rfl (lv_at hl 2 rfl) ?_
        obtain ⟨a_34, ha_34, hf⟩ := bd_e hf
        refine Ct.callV (As := []) (rest := []) (st1 := []) (c_X5_forgets l D cI A h_33 a_34 ha_34) hx hb hml hown hts (cwV 0 hts gX5_findGets_X5_forgets rfl rfl rfl hd_X5_forgets ⟨Nat.le_of_ble_eq_true rfl, Nat.le_of_ble_eq_true rfl⟩) (va_recv hK hP (ci := 5) (q0 := 0) rfl cM_at0) (Ln.id rfl) hA hK hP hD hS rfl hl.1 rfl rfl (Nat.le_of_ble_eq_true rfl) dX5_findGets_94 (fun H locs hP hD hS => ?_)
        replace hP : va_P D vwCl (cM cI A a_34) H := hP
        replace hD : va_D AA (cM cI A a_34) := hD
        obtain ⟨v_35, ev_35, hf⟩ := nq_e hf
        refine lv_iinc (v := v_35) (lv' := [(3, .int v_35), (5, .int a_6.1), (4, .int a_4.1), (0, .ref (A 0)), (1, .int p1), (2, .int p2)]) hx hb dX5_findGets_97 hl (k := 5) rfl (by rw [ev_35]; rfl) (by decide) rfl (fun ls hl => ?_)
        refine lv_goto (tgt := 2) hx hb dX5_findGets_100 (by decide) ?_
        exact ih2 (v_35, a_34) hf H locs ls hP hD hS (lv_sub hl [3, 4, 5, 0] rfl)
