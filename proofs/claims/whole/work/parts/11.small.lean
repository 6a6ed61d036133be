def rm_J6_bitCount_0f7a4 : Room := { frames := 0, cells := 0, slots := 0, locals := 0 }
theorem hd_J6_bitCount_0f7a4 : yJ6_bitCount_0f7a4.cls ≠ "java/lang/invoke/MethodHandle" ∧ yJ6_bitCount_0f7a4.cls ≠ "java/lang/invoke/VarHandle" ∧ (parseMethodDescriptor yJ6_bitCount_0f7a4.desc).map (fun d => d.parameters.length) = some 1 := by decide +kernel
set_option maxRecDepth 100000 in
set_option maxHeartbeats 4000000 in
theorem c_J6_bitCount_0f7a4 (l : Launch) (D : va_G) (cI : ClassId) (p1 : Int32) (r : Int32) (hf : f_J6_bitCount_0f7a4 p1 = some r) : Ct l yJ6_bitCount_0f7a4 wsJ6_bitCount_0f7a4 rm_J6_bitCount_0f7a4 D cI [] [] [.int p1] (some (.int r)) := by
  unfold f_J6_bitCount_0f7a4 at hf
  refine Ct.ofI (cc := cJ6_bitCount_0f7a4) (maxL := 1) (by decide +kernel) rfl (Nat.le_of_ble_eq_true rfl) ?_
  intro p e s m args below meth c AA Q H locs ls hx hb hml hown hts hA hK hP hD hS hl hend0
  have hend : ∀ (r1 : Int32) (H : Heap) (locs : List Loc) (pc : Nat) (ls : Array Slot), some r1 = some r → va_P D vwCl [] H → va_S AA s.heap H locs → decode cJ6_bitCount_0f7a4 pc = .ok (.ireturn, 1) → W p l e rm_J6_bitCount_0f7a4 s m args below meth c H locs 0 0 Q (F0 m pc ls [.int r1]) := by
    intro r1 H locs pc ls e1 hP hS hd; cases e1; exact hend0 H locs pc ls hP hS hd
  clear hend0
  have kc265 := hts (.constant RJ6 265 1431655765) (by decide +kernel)
  have kc266 := hts (.constant RJ6 266 858993459) (by decide +kernel)
  have kc267 := hts (.constant RJ6 267 252645135) (by decide +kernel)
  replace hl : lv_has ls 1 [(0, .int p1)] := hl
  refine lv_iload_n hx hb dJ6_bitCount_0f7a4_0 rfl (lv_at hl 0 rfl) ?_
  refine lv_iload_n hx hb dJ6_bitCount_0f7a4_1 rfl (lv_at hl 0 rfl) ?_
  refine lv_iconst (v := 1) hx hb dJ6_bitCount_0f7a4_2 (by decide) ?_
  refine lv_iushr (v := ((p1).toUInt32 >>> (((1 : Int32)).toUInt32 &&& Int32.toUInt32 31)).toInt32) hx hb dJ6_bitCount_0f7a4_3 rfl ?_
  refine lv_ldcw (v := 1431655765) hx hb hown kc265 dJ6_bitCount_0f7a4_4 ?_
  refine lv_iand hx hb dJ6_bitCount_0f7a4_7 ?_
  refine lv_isub hx hb dJ6_bitCount_0f7a4_8 ?_
  refine lv_topi (fun v_1 ev_1 => ?_)
  replace hf := nm_at ev_1 hf
  refine lv_istore_n (lv' := [(0, .int v_1)]) hx hb dJ6_bitCount_0f7a4_9 rfl hl (by decide) rfl (fun ls hl => ?_)
  refine lv_iload_n hx hb dJ6_bitCount_0f7a4_10 rfl (lv_at hl 0 rfl) ?_
  refine lv_ldcw (v := 858993459) hx hb hown kc266 dJ6_bitCount_0f7a4_11 ?_
  refine lv_iand hx hb dJ6_bitCount_0f7a4_14 ?_
  refine lv_iload_n hx hb dJ6_bitCount_0f7a4_15 rfl (lv_at hl 0 rfl) ?_
  refine lv_iconst (v := 2) hx hb dJ6_bitCount_0f7a4_16 (by decide) ?_
  refine lv_iushr (v := ((v_1).toUInt32 >>> (((2 : Int32)).toUInt32 &&& Int32.toUInt32 31)).toInt32) hx hb dJ6_bitCount_0f7a4_17 rfl ?_
  refine lv_ldcw (v := 858993459) hx hb hown kc266 dJ6_bitCount_0f7a4_18 ?_
  refine lv_iand hx hb dJ6_bitCount_0f7a4_21 ?_
  refine lv_iadd hx hb dJ6_bitCount_0f7a4_22 ?_
  refine lv_topi (fun v_2 ev_2 => ?_)
  replace hf := nm_at ev_2 hf
  refine lv_istore_n (lv' := [(0, .int v_2)]) hx hb dJ6_bitCount_0f7a4_23 rfl hl (by decide) rfl (fun ls hl => ?_)
  refine lv_iload_n hx hb dJ6_bitCount_0f7a4_24 rfl (lv_at hl 0 rfl) ?_
  refine lv_iload_n hx hb dJ6_bitCount_0f7a4_25 rfl (lv_at hl 0 rfl) ?_
  refine lv_iconst (v := 4) hx hb dJ6_bitCount_0f7a4_26 (by decide) ?_
  refine lv_iushr (v := ((v_2).toUInt32 >>> (((4 : Int32)).toUInt32 &&& Int32.toUInt32 31)).toInt32) hx hb dJ6_bitCount_0f7a4_27 rfl ?_
  refine lv_iadd hx hb dJ6_bitCount_0f7a4_28 ?_
  refine lv_ldcw (v := 252645135) hx hb hown kc267 dJ6_bitCount_0f7a4_29 ?_
  refine lv_iand hx hb dJ6_bitCount_0f7a4_32 ?_
  refine lv_topi (fun v_3 ev_3 => ?_)
  replace hf := nm_at ev_3 hf
  refine lv_istore_n (lv' := [(0, .int v_3)]) hx hb dJ6_bitCount_0f7a4_33 rfl hl (by decide) rfl (fun ls hl => ?_)
  refine lv_iload_n hx hb dJ6_bitCount_0f7a4_34 rfl (lv_at hl 0 rfl) ?_
  refine lv_iload_n hx hb dJ6_bitCount_0f7a4_35 rfl (lv_at hl 0 rfl) ?_
  refine lv_bipush (v := 8) hx hb dJ6_bitCount_0f7a4_36 (by decide +kernel) ?_
  refine lv_iushr (v := ((v_3).toUInt32 >>> (((8 : Int32)).toUInt32 &&& Int32.toUInt32 31)).toInt32) hx hb dJ6_bitCount_0f7a4_38 rfl ?_
  refine lv_iadd hx hb dJ6_bitCount_0f7a4_39 ?_
  refine lv_topi (fun v_4 ev_4 => ?_)
  replace hf := nm_at ev_4 hf
  refine lv_istore_n (lv' := [(0, .int v_4)]) hx hb dJ6_bitCount_0f7a4_40 rfl hl (by decide) rfl (fun ls hl => ?_)
  refine lv_iload_n hx hb dJ6_bitCount_0f7a4_41 rfl (lv_at hl 0 rfl) ?_
  refine lv_iload_n hx hb dJ6_bitCount_0f7a4_42 rfl (lv_at hl 0 rfl) ?_
  refine lv_bipush (v := 16) hx hb dJ6_bitCount_0f7a4_43 (by decide +kernel) ?_
  refine lv_iushr (v := ((v_4).toUInt32 >>> (((16 : Int32)).toUInt32 &&& Int32.toUInt32 31)).toInt32) hx hb dJ6_bitCount_0f7a4_45 rfl ?_
  refine lv_iadd hx hb dJ6_bitCount_0f7a4_46 ?_
  refine lv_topi (fun v_5 ev_5 => ?_)
  replace hf := nm_at ev_5 hf
  refine lv_istore_n (lv' := [(0, .int v_5)]) hx hb dJ6_bitCount_0f7a4_47 rfl hl (by decide) rfl (fun ls hl => ?_)
  refine lv_iload_n hx hb dJ6_bitCount_0f7a4_48 rfl (lv_at hl 0 rfl) ?_
  refine lv_bipush (v := 63) hx hb dJ6_bitCount_0f7a4_49 (by decide +kernel) ?_
  refine lv_iand hx hb dJ6_bitCount_0f7a4_51 ?_
  exact hend (v_5 &&& (63 : Int32)) H locs _ _ hf hP hS dJ6_bitCount_0f7a4_52

def rm_X2_drawBelow : Room := { frames := 0, cells := 0, slots := 0, locals := 0 }
theorem hd_X2_drawBelow : yX2_drawBelow.cls = RX2 ∧ yX2_drawBelow.cls ≠ "java/lang/invoke/MethodHandle" ∧ yX2_drawBelow.cls ≠ "java/lang/invoke/VarHandle" ∧ (parseMethodDescriptor yX2_drawBelow.desc).map (fun d => d.parameters.length) = some 1 := by decide +kernel
set_option maxRecDepth 100000 in
set_option maxHeartbeats 4000000 in
theorem c_X2_drawBelow (l : Launch) (D : va_G) (cI : ClassId) (A : Nat → Nat) (z : St) (p1 : Int32) (r : Int32 × St) (hf : f_X2_drawBelow z p1 = some r) : Ct l yX2_drawBelow wsX2_drawBelow rm_X2_drawBelow D cI (cZ cI A z) (cZ cI A r.2) [.ref (A 0), .int p1] (some (.int r.1)) := by
  unfold f_X2_drawBelow at hf
  refine Ct.ofI (cc := cX2_drawBelow) (maxL := 2) (by decide +kernel) rfl (Nat.le_of_ble_eq_true rfl) ?_
  intro p e s m args below meth c AA Q H locs ls hx hb hml hown hts hA hK hP hD hS hl hend0
  have hend : ∀ (r1 : Int32 × St) (H : Heap) (locs : List Loc) (pc : Nat) (ls : Array Slot), some r1 = some r → va_P D vwCl (cZ cI A r1.2) H → va_S AA s.heap H locs → decode cX2_drawBelow pc = .ok (.ireturn, 1) → W p l e rm_X2_drawBelow s m args below meth c H locs 0 0 Q (F0 m pc ls [.int r1.1]) := by
    intro r1 H locs pc ls e1 hP hS hd; cases e1; exact hend0 H locs pc ls hP hS hd
  clear hend0
  have hw2 : ∀ w ∈ wsX20, w ∈ wsX2_drawBelow := by decide +kernel
  have k7 := hts (.fieldLink RX2 7 "AnchorsForConfession$Lot" "seed" "I") (by decide +kernel)
  have kc13 := hts (.constant RX2 13 1664525) (by decide +kernel)
  have kc14 := hts (.constant RX2 14 1013904223) (by decide +kernel)
  have kc15 := hts (.constant RX2 15 2147483647) (by decide +kernel)
  replace hl : lv_has ls 2 [(0, .ref (A 0)), (1, .int p1)] := hl
  refine lv_aload_n hx hb dX2_drawBelow_0 rfl (lv_at hl 0 rfl) ?_
  refine lv_aload_n hx hb dX2_drawBelow_1 rfl (lv_at hl 0 rfl) ?_
  refine va_get (D := D) (ci := 2) (v := .int (z 0 0)) (C := RX2) (T := TX2) (N := 1) hx hb hts hw2 hown hK hP 0 cZ_at0 rfl 0 (by decide) k7 (fun _ h9 => h9) rfl dX2_drawBelow_2 ?_
  refine lv_ldc (v := 1664525) hx hb hown kc13 dX2_drawBelow_5 ?_
  refine lv_imul hx hb dX2_drawBelow_7 ?_
  refine lv_ldc (v := 1013904223) hx hb hown kc14 dX2_drawBelow_8 ?_
  refine lv_iadd hx hb dX2_drawBelow_10 ?_
  refine va_put (D := D) (ci := 2) (v := .int (((z 0 0) * (1664525 : Int32)) + (1013904223 : Int32))) (ty := .int) (C := RX2) (T := TX2) (N := 1) hx hb hts hw2 tyX2 tyX2_ok nmX2 hown hK hP hD hS 0 cZ_at0 rfl 0 (by decide) k7 (fun _ h9 => h9) rfl (tyX2_ok 0 (by decide)) rfl rfl (Nat.le_of_ble_eq_true rfl) dX2_drawBelow_11 (fun H locs hP hD hS => ?_)
  obtain ⟨h_1, eh_1, hf⟩ := nq_e hf
  rw [cZ_sc0_0, ← eh_1] at hP hD
  refine lv_iload_n hx hb dX2_drawBelow_14 rfl (lv_at hl 1 rfl) ?_
  refine lv_if_le (tgt := 34) hx hb dX2_drawBelow_15 (by decide) (fun c_2 => ?_) (fun c_2 => ?_)
  · replace hf := if_t c_2 hf
    refine lv_iconst (v := 0) hx hb dX2_drawBelow_34 (by decide) ?_
    exact hend ((0 : Int32), h_1) H locs _ _ hf hP hS dX2_drawBelow_35
  · replace hf := if_f c_2 hf
    refine lv_aload_n hx hb dX2_drawBelow_18 rfl (lv_at hl 0 rfl) ?_
    refine va_get (D := D) (ci := 2) (v := .int (h_1 0 0)) (C := RX2) (T := TX2) (N := 1) hx hb hts hw2 hown hK hP 0 cZ_at0 rfl 0 (by decide) k7 (fun _ h9 => h9) rfl dX2_drawBelow_19 ?_
    refine lv_ldc (v := 2147483647) hx hb hown kc15 dX2_drawBelow_22 ?_
    refine lv_iand hx hb dX2_drawBelow_24 ?_
    refine lv_sipush (v := 256) hx hb dX2_drawBelow_25 (by decide +kernel) ?_
    refine lv_idiv hx hb dX2_drawBelow_28 (by decide) ?_
    refine lv_iload_n hx hb dX2_drawBelow_29 rfl (lv_at hl 1 rfl) ?_
    obtain ⟨c_4, hf⟩ := gd_e hf
    refine lv_irem hx hb dX2_drawBelow_30 c_4 ?_
    refine lv_goto (tgt := 35) hx hb dX2_drawBelow_31 (by decide) ?_
    exact hend (((((h_1 0 0) &&& (2147483647 : Int32)) / (256 : Int32)) - (((h_1 0 0) &&& (2147483647 : Int32)) / (256 : Int32)) / p1 * p1), h_1) H locs _ _ hf hP hS dX2_drawBelow_35

def rm_X3_isFull : Room := { frames := 0, cells := 0, slots := 0, locals := 0 }
theorem hd_X3_isFull : yX3_isFull.cls = RX3 ∧ yX3_isFull.cls ≠ "java/lang/invoke/MethodHandle" ∧ yX3_isFull.cls ≠ "java/lang/invoke/VarHandle" ∧ (parseMethodDescriptor yX3_isFull.desc).map (fun d => d.parameters.length) = some 0 := by decide +kernel
set_option maxRecDepth 100000 in
set_option maxHeartbeats 4000000 in
theorem c_X3_isFull (l : Launch) (D : va_G) (cI : ClassId) (A : Nat → Nat) (w : St) (r : Int32) (hf : f_X3_isFull w = some r) : Ct l yX3_isFull wsX3_isFull rm_X3_isFull D cI (cR cI A w) (cR cI A w) [.ref (A 0)] (some (.int r)) := by
  unfold f_X3_isFull at hf
  obtain ⟨hz, hf⟩ := fz_e hf
  refine Ct.ofZ hz (cc := cX3_isFull) (maxL := 1) (by decide +kernel) rfl (Nat.le_of_ble_eq_true rfl) ?_
  intro p e s m args below meth c AA Q H locs ls hx hb hml hown hts hA hK hP hD hS hl hend0
  have hend : ∀ (r1 : Int32) (H : Heap) (locs : List Loc) (pc : Nat) (ls : Array Slot), some r1 = some r → va_P D vwCl (cR cI A w) H → va_S AA s.heap H locs → decode cX3_isFull pc = .ok (.ireturn, 1) → W p l e rm_X3_isFull s m args below meth c H locs 0 0 Q (F0 m pc ls [.int r1]) := by
    intro r1 H locs pc ls e1 hP hS hd; cases e1; exact hend0 H locs pc ls hP hS hd
  clear hend0
  have hw3 : ∀ w ∈ wsX30, w ∈ wsX3_isFull := by decide +kernel
  have k15 := hts (.fieldLink RX3 15 "AnchorsForConfession$Row" "size" "I") (by decide +kernel)
  replace hl : lv_has ls 1 [(0, .ref (A 0))] := hl
  refine lv_aload_n hx hb dX3_isFull_0 rfl (lv_at hl 0 rfl) ?_
  refine va_get (D := D) (ci := 3) (v := .int (w 1 0)) (C := RX3) (T := TX3) (N := 2) hx hb hts hw3 hown hK hP 0 cR_at0 rfl 1 (by decide) k15 (fun _ h9 => h9) rfl dX3_isFull_1 ?_
  refine lv_bipush (v := 16) hx hb dX3_isFull_4 (by decide +kernel) ?_
  refine lv_icmp_lt (tgt := 13) hx hb dX3_isFull_6 (by decide) (fun c_1 => ?_) (fun c_1 => ?_)
  · replace hf := if_t c_1 hf
    refine lv_iconst (v := 0) hx hb dX3_isFull_13 (by decide) ?_
    exact hend (0 : Int32) H locs _ _ hf hP hS dX3_isFull_14
  · replace hf := if_f c_1 hf
    refine lv_iconst (v := 1) hx hb dX3_isFull_9 (by decide) ?_
    refine lv_goto (tgt := 14) hx hb dX3_isFull_10 (by decide) ?_
    exact hend (1 : Int32) H locs _ _ hf hP hS dX3_isFull_14

def rm_X3_add : Room := { frames := 0, cells := 0, slots := 0, locals := 0 }
theorem hd_X3_add : yX3_add.cls = RX3 ∧ yX3_add.cls ≠ "java/lang/invoke/MethodHandle" ∧ yX3_add.cls ≠ "java/lang/invoke/VarHandle" ∧ (parseMethodDescriptor yX3_add.desc).map (fun d => d.parameters.length) = some 1 := by decide +kernel
set_option maxRecDepth 100000 in
set_option maxHeartbeats 4000000 in
theorem c_X3_add (l : Launch) (D : va_G) (cI : ClassId) (A : Nat → Nat) (w : St) (p1 : Int32) (r : Int32 × St) (hf : f_X3_add w p1 = some r) : Ct l yX3_add wsX3_add rm_X3_add D cI (cR cI A w) (cR cI A r.2) [.ref (A 0), .int p1] (some (.int r.1)) := by
  unfold f_X3_add at hf
  refine Ct.ofI (cc := cX3_add) (maxL := 2) (by decide +kernel) rfl (Nat.le_of_ble_eq_true rfl) ?_
  intro p e s m args below meth c AA Q H locs ls hx hb hml hown hts hA hK hP hD hS hl hend0
  have hend : ∀ (r1 : Int32 × St) (H : Heap) (locs : List Loc) (pc : Nat) (ls : Array Slot), some r1 = some r → va_P D vwCl (cR cI A r1.2) H → va_S AA s.heap H locs → decode cX3_add pc = .ok (.ireturn, 1) → W p l e rm_X3_add s m args below meth c H locs 0 0 Q (F0 m pc ls [.int r1.1]) := by
    intro r1 H locs pc ls e1 hP hS hd; cases e1; exact hend0 H locs pc ls hP hS hd
  clear hend0
  have hw3 : ∀ w ∈ wsX30, w ∈ wsX3_add := by decide +kernel
  have k11 := hts (.fieldLink RX3 11 "AnchorsForConfession$Row" "numbers" "[I") (by decide +kernel)
  have k15 := hts (.fieldLink RX3 15 "AnchorsForConfession$Row" "size" "I") (by decide +kernel)
  replace hl : lv_has ls 2 [(0, .ref (A 0)), (1, .int p1)] := hl
  refine lv_aload_n hx hb dX3_add_0 rfl (lv_at hl 0 rfl) ?_
  refine va_get (D := D) (ci := 3) (v := .int (w 1 0)) (C := RX3) (T := TX3) (N := 2) hx hb hts hw3 hown hK hP 0 cR_at0 rfl 1 (by decide) k15 (fun _ h9 => h9) rfl dX3_add_1 ?_
  refine lv_bipush (v := 16) hx hb dX3_add_4 (by decide +kernel) ?_
  refine lv_icmp_ge (tgt := 29) hx hb dX3_add_6 (by decide) (fun c_1 => ?_) (fun c_1 => ?_)
  · replace hf := if_t c_1 hf
    refine lv_aload_n hx hb dX3_add_29 rfl (lv_at hl 0 rfl) ?_
    refine va_get (D := D) (ci := 3) (v := .int (w 1 0)) (C := RX3) (T := TX3) (N := 2) hx hb hts hw3 hown hK hP 0 cR_at0 rfl 1 (by decide) k15 (fun _ h9 => h9) rfl dX3_add_30 ?_
    exact hend ((w 1 0), w) H locs _ _ hf hP hS dX3_add_33
  · replace hf := if_f c_1 hf
    refine lv_aload_n hx hb dX3_add_9 rfl (lv_at hl 0 rfl) ?_
    refine va_get (D := D) (ci := 3) (v := .ref (A 1)) (C := RX3) (T := TX3) (N := 2) hx hb hts hw3 hown hK hP 0 cR_at0 rfl 0 (by decide) k11 (fun _ h9 => h9) rfl dX3_add_10 ?_
    refine lv_aload_n hx hb dX3_add_13 rfl (lv_at hl 0 rfl) ?_
    refine va_get (D := D) (ci := 3) (v := .int (w 1 0)) (C := RX3) (T := TX3) (N := 2) hx hb hts hw3 hown hK hP 0 cR_at0 rfl 1 (by decide) k15 (fun _ h9 => h9) rfl dX3_add_14 ?_
    refine lv_iload_n hx hb dX3_add_17 rfl (lv_at hl 1 rfl) ?_
    obtain ⟨c_2, hf⟩ := gi_e hf
    refine va_iast hx hb hK hP hD hS 1 0 cR_at1 rfl c_2 dX3_add_18 (fun H locs hP hD hS => ?_)
    obtain ⟨h_3, eh_3, hf⟩ := nq_e hf
    rw [cR_su1, ← eh_3] at hP hD
    refine lv_aload_n hx hb dX3_add_19 rfl (lv_at hl 0 rfl) ?_
    refine lv_dup hx hb dX3_add_20 rfl ?_
    refine va_get (D := D) (ci := 3) (v := .int (h_3 1 0)) (C := RX3) (T := TX3) (N := 2) hx hb hts hw3 hown hK hP 0 cR_at0 rfl 1 (by decide) k15 (fun _ h9 => h9) rfl dX3_add_21 ?_
    refine lv_iconst (v := 1) hx hb dX3_add_24 (by decide) ?_
    refine lv_iadd hx hb dX3_add_25 ?_
    refine va_put (D := D) (ci := 3) (v := .int ((h_3 1 0) + (1 : Int32))) (ty := .int) (C := RX3) (T := TX3) (N := 2) hx hb hts hw3 tyX3 tyX3_ok nmX3 hown hK hP hD hS 0 cR_at0 rfl 1 (by decide) k15 (fun _ h9 => h9) rfl (tyX3_ok 1 (by decide)) rfl rfl (Nat.le_of_ble_eq_true rfl) dX3_add_26 (fun H locs hP hD hS => ?_)
    obtain ⟨h_4, eh_4, hf⟩ := nq_e hf
    rw [cR_sc0_1, ← eh_4] at hP hD
    refine lv_aload_n hx hb dX3_add_29 rfl (lv_at hl 0 rfl) ?_
    refine va_get (D := D) (ci := 3) (v := .int (h_4 1 0)) (C := RX3) (T := TX3) (N := 2) hx hb hts hw3 hown hK hP 0 cR_at0 rfl 1 (by decide) k15 (fun _ h9 => h9) rfl dX3_add_30 ?_
    exact hend ((h_4 1 0), h_4) H locs _ _ hf hP hS dX3_add_33

def rm_X3_drop : Room := { frames := 0, cells := 0, slots := 0, locals := 0 }
theorem hd_X3_drop : yX3_drop.cls = RX3 ∧ yX3_drop.cls ≠ "java/lang/invoke/MethodHandle" ∧ yX3_drop.cls ≠ "java/lang/invoke/VarHandle" ∧ (parseMethodDescriptor yX3_drop.desc).map (fun d => d.parameters.length) = some 0 := by decide +kernel
set_option maxRecDepth 100000 in
set_option maxHeartbeats 4000000 in
theorem c_X3_drop (l : Launch) (D : va_G) (cI : ClassId) (A : Nat → Nat) (w : St) (r : Int32 × St) (hf : f_X3_drop w = some r) : Ct l yX3_drop wsX3_drop rm_X3_drop D cI (cR cI A w) (cR cI A r.2) [.ref (A 0)] (some (.int r.1)) := by
  unfold f_X3_drop at hf
  refine Ct.ofI (cc := cX3_drop) (maxL := 2) (by decide +kernel) rfl (Nat.le_of_ble_eq_true rfl) ?_
  intro p e s m args below meth c AA Q H locs ls hx hb hml hown hts hA hK hP hD hS hl hend0
  have hend : ∀ (r1 : Int32 × St) (H : Heap) (locs : List Loc) (pc : Nat) (ls : Array Slot), some r1 = some r → va_P D vwCl (cR cI A r1.2) H → va_S AA s.heap H locs → decode cX3_drop pc = .ok (.ireturn, 1) → W p l e rm_X3_drop s m args below meth c H locs 0 0 Q (F0 m pc ls [.int r1.1]) := by
    intro r1 H locs pc ls e1 hP hS hd; cases e1; exact hend0 H locs pc ls hP hS hd
  clear hend0
  have hw3 : ∀ w ∈ wsX30, w ∈ wsX3_drop := by decide +kernel
  have k15 := hts (.fieldLink RX3 15 "AnchorsForConfession$Row" "size" "I") (by decide +kernel)
  replace hl : lv_has ls 2 [(0, .ref (A 0))] := hl
  refine lv_aload_n hx hb dX3_drop_0 rfl (lv_at hl 0 rfl) ?_
  refine va_get (D := D) (ci := 3) (v := .int (w 1 0)) (C := RX3) (T := TX3) (N := 2) hx hb hts hw3 hown hK hP 0 cR_at0 rfl 1 (by decide) k15 (fun _ h9 => h9) rfl dX3_drop_1 ?_
  refine lv_topi (fun v_1 ev_1 => ?_)
  replace hf := nm_at ev_1 hf
  refine lv_istore_n (lv' := [(1, .int v_1), (0, .ref (A 0))]) hx hb dX3_drop_4 rfl hl (by decide) rfl (fun ls hl => ?_)
  refine lv_aload_n hx hb dX3_drop_5 rfl (lv_at hl 1 rfl) ?_
  refine lv_iconst (v := 0) hx hb dX3_drop_6 (by decide) ?_
  refine va_put (D := D) (ci := 3) (v := .int (0 : Int32)) (ty := .int) (C := RX3) (T := TX3) (N := 2) hx hb hts hw3 tyX3 tyX3_ok nmX3 hown hK hP hD hS 0 cR_at0 rfl 1 (by decide) k15 (fun _ h9 => h9) rfl (tyX3_ok 1 (by decide)) rfl rfl (Nat.le_of_ble_eq_true rfl) dX3_drop_7 (fun H locs hP hD hS => ?_)
  obtain ⟨h_2, eh_2, hf⟩ := nq_e hf
  rw [cR_sc0_1, ← eh_2] at hP hD
  refine lv_iload_n hx hb dX3_drop_10 rfl (lv_at hl 0 rfl) ?_
  exact hend (v_1, h_2) H locs _ _ hf hP hS dX3_drop_11

def rm_X3_firstNotHeldAsIn : Room := { frames := 2, cells := 0, slots := 0, locals := 42 }
theorem hd_X3_firstNotHeldAsIn : yX3_firstNotHeldAsIn.cls = RX3 ∧ yX3_firstNotHeldAsIn.cls ≠ "java/lang/invoke/MethodHandle" ∧ yX3_firstNotHeldAsIn.cls ≠ "java/lang/invoke/VarHandle" ∧ (parseMethodDescriptor yX3_firstNotHeldAsIn.desc).map (fun d => d.parameters.length) = some 1 := by decide +kernel
set_option maxRecDepth 100000 in
set_option maxHeartbeats 4000000 in
theorem c_X3_firstNotHeldAsIn (l : Launch) (D : va_G) (cI : ClassId) (A B : Nat → Nat) (w : St) (h : St) (r : Int32) (hf : f_X3_firstNotHeldAsIn w h = some r) : Ct l yX3_firstNotHeldAsIn wsX3_firstNotHeldAsIn rm_X3_firstNotHeldAsIn D cI (cRH cI A B w h) (cRH cI A B w h) [.ref (A 0), .ref (B 0)] (some (.int r)) := by
  unfold f_X3_firstNotHeldAsIn at hf
  refine Ct.ofI (cc := cX3_firstNotHeldAsIn) (maxL := 3) (by decide +kernel) rfl (Nat.le_of_ble_eq_true rfl) ?_
  intro p e s m args below meth c AA Q H locs ls hx hb hml hown hts hA hK hP hD hS hl hend0
  have hend : ∀ (r1 : Int32) (H : Heap) (locs : List Loc) (pc : Nat) (ls : Array Slot), some r1 = some r → va_P D vwCl (cRH cI A B w h) H → va_S AA s.heap H locs → decode cX3_firstNotHeldAsIn pc = .ok (.ireturn, 1) → W p l e rm_X3_firstNotHeldAsIn s m args below meth c H locs 0 0 Q (F0 m pc ls [.int r1]) := by
    intro r1 H locs pc ls e1 hP hS hd; cases e1; exact hend0 H locs pc ls hP hS hd
  clear hend0
  have hw3 : ∀ w ∈ wsX30, w ∈ wsX3_firstNotHeldAsIn := by decide +kernel
  have k11 := hts (.fieldLink RX3 11 "AnchorsForConfession$Row" "numbers" "[I") (by decide +kernel)
  have k15 := hts (.fieldLink RX3 15 "AnchorsForConfession$Row" "size" "I") (by decide +kernel)
  replace hl : lv_has ls 3 [(0, .ref (A 0)), (1, .ref (B 0))] := hl
  refine lv_iconst (v := 0) hx hb dX3_firstNotHeldAsIn_0 (by decide) ?_
  refine lv_istore_n (lv' := [(2, .int (0 : Int32)), (0, .ref (A 0)), (1, .ref (B 0))]) hx hb dX3_firstNotHeldAsIn_1 rfl hl (by decide) rfl (fun ls hl => ?_)
  refine lp_ind (P := fun (q2 : Int32) => ∀ (H : Heap) (locs : List Loc) (ls : Array Slot), va_P D vwCl (cRH cI A B w h) H → va_D AA (cRH cI A B w h) → va_S AA s.heap H locs → lv_has ls 3 [(0, .ref (A 0)), (1, .ref (B 0)), (2, .int q2)] → W p l e rm_X3_firstNotHeldAsIn s m args below meth c H locs 0 0 Q (F0 m 2 ls [])) hf ?_ H locs ls hP hD hS (lv_sub hl [1, 2, 0] rfl)
  clear hf hP hD hS hl
  intro nx2 ih2 q2 hf H locs ls hP hD hS hl
  refine lv_iload_n hx hb dX3_firstNotHeldAsIn_2 rfl (lv_at hl 2 rfl) ?_
  refine lv_aload_n hx hb dX3_firstNotHeldAsIn_3 rfl (lv_at hl 0 rfl) ?_
  refine va_get (D := D) (ci := 3) (v := .int (w 1 0)) (C := RX3) (T := TX3) (N := 2) hx hb hts hw3 hown hK hP 0 cRH_at0 rfl 1 (by decide) k15 (fun _ h9 => h9) rfl dX3_firstNotHeldAsIn_4 ?_
  refine lv_icmp_ge (tgt := 40) hx hb dX3_firstNotHeldAsIn_7 (by decide) (fun c_1 => ?_) (fun c_1 => ?_)
  · replace hf := if_t c_1 hf
    refine lv_bipush (v := -9) hx hb dX3_firstNotHeldAsIn_40 (by decide +kernel) ?_
    exact hend (-9 : Int32) H locs _ _ hf hP hS dX3_firstNotHeldAsIn_42
  · replace hf := if_f c_1 hf
    refine lv_aload_n hx hb dX3_firstNotHeldAsIn_10 rfl (lv_at hl 1 rfl) ?_
    refine lv_iload_n hx hb dX3_firstNotHeldAsIn_11 rfl (lv_at hl 2 rfl) ?_
    obtain ⟨a_2, ha_2, hf⟩ := bd_e hf
    refine Ct.callV (As := [.int q2]) (rest := []) (st1 := [.int a_2]) (c_X0_hasShip l D cI B h q2 a_2 ha_2) hx hb hml hown hts (cwV 1 hts gX3_firstNotHeldAsIn_X0_hasShip rfl rfl rfl hd_X0_hasShip ⟨Nat.le_of_ble_eq_true rfl, Nat.le_of_ble_eq_true rfl⟩) (va_recv hK hP (ci := 0) (q0 := 2) rfl cRH_at2) ln_RH_H hA hK hP hD hS rfl hl.1 rfl rfl (Nat.le_of_ble_eq_true rfl) dX3_firstNotHeldAsIn_12 (fun H locs hP hD hS => ?_)
    refine lv_if_eq (tgt := 32) hx hb dX3_firstNotHeldAsIn_15 (by decide) (fun c_3 => ?_) (fun c_3 => ?_)
    · replace hf := if_t c_3 hf
      refine lv_iload_n hx hb dX3_firstNotHeldAsIn_32 rfl (lv_at hl 2 rfl) ?_
      exact hend q2 H locs _ _ hf hP hS dX3_firstNotHeldAsIn_33
    · replace hf := if_f c_3 hf
      refine lv_aload_n hx hb dX3_firstNotHeldAsIn_18 rfl (lv_at hl 1 rfl) ?_
      refine lv_iload_n hx hb dX3_firstNotHeldAsIn_19 rfl (lv_at hl 2 rfl) ?_
      obtain ⟨a_4, ha_4, hf⟩ := bd_e hf
      refine Ct.callV (As := [.int q2]) (rest := []) (st1 := [.int a_4]) (c_X0_holds l D cI B h q2 a_4 ha_4) hx hb hml hown hts (cwV 1 hts gX3_firstNotHeldAsIn_X0_holds rfl rfl rfl hd_X0_holds ⟨Nat.le_of_ble_eq_true rfl, Nat.le_of_ble_eq_true rfl⟩) (va_recv hK hP (ci := 0) (q0 := 2) rfl cRH_at2) ln_RH_H hA hK hP hD hS rfl hl.1 rfl rfl (Nat.le_of_ble_eq_true rfl) dX3_firstNotHeldAsIn_20 (fun H locs hP hD hS => ?_)
      refine lv_aload_n hx hb dX3_firstNotHeldAsIn_23 rfl (lv_at hl 0 rfl) ?_
      refine va_get (D := D) (ci := 3) (v := .ref (A 1)) (C := RX3) (T := TX3) (N := 2) hx hb hts hw3 hown hK hP 0 cRH_at0 rfl 0 (by decide) k11 (fun _ h9 => h9) rfl dX3_firstNotHeldAsIn_24 ?_
      refine lv_iload_n hx hb dX3_firstNotHeldAsIn_27 rfl (lv_at hl 2 rfl) ?_
      obtain ⟨c_5, hf⟩ := gi_e hf
      refine va_iald hx hb hK hP 1 0 cRH_at1 rfl c_5 dX3_firstNotHeldAsIn_28 ?_
      refine lv_icmp_eq (tgt := 34) hx hb dX3_firstNotHeldAsIn_29 (by decide) (fun c_6 => ?_) (fun c_6 => ?_)
      · replace hf := if_t c_6 hf
        obtain ⟨v_7, ev_7, hf⟩ := nq_e hf
        refine lv_iinc (v := v_7) (lv' := [(2, .int v_7), (0, .ref (A 0)), (1, .ref (B 0))]) hx hb dX3_firstNotHeldAsIn_34 hl (k := 2) rfl (by rw [ev_7]; rfl) (by decide) rfl (fun ls hl => ?_)
        refine lv_goto (tgt := 2) hx hb dX3_firstNotHeldAsIn_37 (by decide) ?_
        exact ih2 v_7 hf H locs ls hP hD hS (lv_sub hl [1, 2, 0] rfl)
      · replace hf := if_f c_6 hf
        refine lv_iload_n hx hb dX3_firstNotHeldAsIn_32 rfl (lv_at hl 2 rfl) ?_
        exact hend q2 H locs _ _ hf hP hS dX3_firstNotHeldAsIn_33

def rm_X3_looseTold : Room := { frames := 1, cells := 0, slots := 0, locals := 21 }
theorem hd_X3_looseTold : yX3_looseTold.cls ≠ "java/lang/invoke/MethodHandle" ∧ yX3_looseTold.cls ≠ "java/lang/invoke/VarHandle" ∧ (parseMethodDescriptor yX3_looseTold.desc).map (fun d => d.parameters.length) = some 2 := by decide +kernel
set_option maxRecDepth 100000 in
set_option maxHeartbeats 4000000 in
theorem c_X3_looseTold (l : Launch) (D : va_G) (cI : ClassId) (A : Nat → Nat) (h : St) (p2 : Int32) (r : Int32) (hf : f_X3_looseTold h p2 = some r) : Ct l yX3_looseTold wsX3_looseTold rm_X3_looseTold D cI (cH cI A h) (cH cI A h) [.ref (A 0), .int p2] (some (.int r)) := by
  unfold f_X3_looseTold at hf
  refine Ct.ofI (cc := cX3_looseTold) (maxL := 2) (by decide +kernel) rfl (Nat.le_of_ble_eq_true rfl) ?_
  intro p e s m args below meth c AA Q H locs ls hx hb hml hown hts hA hK hP hD hS hl hend0
  have hend : ∀ (r1 : Int32) (H : Heap) (locs : List Loc) (pc : Nat) (ls : Array Slot), some r1 = some r → va_P D vwCl (cH cI A h) H → va_S AA s.heap H locs → decode cX3_looseTold pc = .ok (.ireturn, 1) → W p l e rm_X3_looseTold s m args below meth c H locs 0 0 Q (F0 m pc ls [.int r1]) := by
    intro r1 H locs pc ls e1 hP hS hd; cases e1; exact hend0 H locs pc ls hP hS hd
  clear hend0
  have hw0 : ∀ w ∈ wsX00, w ∈ wsX3_looseTold := by decide +kernel
  have k36 := hts (.fieldLink RX3 36 "AnchorsForConfession$Harbour" "loose" "[I") (by decide +kernel)
  replace hl : lv_has ls 2 [(0, .ref (A 0)), (1, .int p2)] := hl
  refine lv_aload_n hx hb dX3_looseTold_0 rfl (lv_at hl 0 rfl) ?_
  refine lv_iload_n hx hb dX3_looseTold_1 rfl (lv_at hl 1 rfl) ?_
  obtain ⟨a_1, ha_1, hf⟩ := bd_e hf
  refine Ct.callV (As := [.int p2]) (rest := []) (st1 := [.int a_1]) (c_X0_isIn l D cI A h p2 a_1 ha_1) hx hb hml hown hts (cwV 1 hts gX3_looseTold_X0_isIn rfl rfl rfl hd_X0_isIn ⟨Nat.le_of_ble_eq_true rfl, Nat.le_of_ble_eq_true rfl⟩) (va_recv hK hP (ci := 0) (q0 := 0) rfl cH_at0) (Ln.id rfl) hA hK hP hD hS rfl hl.1 rfl rfl (Nat.le_of_ble_eq_true rfl) dX3_looseTold_2 (fun H locs hP hD hS => ?_)
  refine lv_if_eq (tgt := 17) hx hb dX3_looseTold_5 (by decide) (fun c_2 => ?_) (fun c_2 => ?_)
  · replace hf := if_t c_2 hf
    refine lv_bipush (v := 98) hx hb dX3_looseTold_17 (by decide +kernel) ?_
    exact hend (98 : Int32) H locs _ _ hf hP hS dX3_looseTold_19
  · replace hf := if_f c_2 hf
    refine lv_aload_n hx hb dX3_looseTold_8 rfl (lv_at hl 0 rfl) ?_
    refine va_get (D := D) (ci := 0) (v := .ref (A 2)) (C := RX0) (T := TX0) (N := 12) hx hb hts hw0 hown hK hP 0 cH_at0 rfl 2 (by decide) k36 (fun _ h9 => h9) rfl dX3_looseTold_9 ?_
    refine lv_iload_n hx hb dX3_looseTold_12 rfl (lv_at hl 1 rfl) ?_
    obtain ⟨c_3, hf⟩ := gi_e hf
    refine va_iald hx hb hK hP 2 0 cH_at2 rfl c_3 dX3_looseTold_13 ?_
    refine lv_goto (tgt := 19) hx hb dX3_looseTold_14 (by decide) ?_
    exact hend (h 2 (p2).toNatClampNeg) H locs _ _ hf hP hS dX3_looseTold_19

def rm_X3_firstNotLooseAsIn : Room := { frames := 2, cells := 0, slots := 0, locals := 42 }
theorem hd_X3_firstNotLooseAsIn : yX3_firstNotLooseAsIn.cls = RX3 ∧ yX3_firstNotLooseAsIn.cls ≠ "java/lang/invoke/MethodHandle" ∧ yX3_firstNotLooseAsIn.cls ≠ "java/lang/invoke/VarHandle" ∧ (parseMethodDescriptor yX3_firstNotLooseAsIn.desc).map (fun d => d.parameters.length) = some 1 := by decide +kernel
set_option maxRecDepth 100000 in
set_option maxHeartbeats 4000000 in
theorem c_X3_firstNotLooseAsIn (l : Launch) (D : va_G) (cI : ClassId) (A B : Nat → Nat) (w : St) (h : St) (r : Int32) (hf : f_X3_firstNotLooseAsIn w h = some r) : Ct l yX3_firstNotLooseAsIn wsX3_firstNotLooseAsIn rm_X3_firstNotLooseAsIn D cI (cRH cI A B w h) (cRH cI A B w h) [.ref (A 0), .ref (B 0)] (some (.int r)) := by
  unfold f_X3_firstNotLooseAsIn at hf
  refine Ct.ofI (cc := cX3_firstNotLooseAsIn) (maxL := 3) (by decide +kernel) rfl (Nat.le_of_ble_eq_true rfl) ?_
  intro p e s m args below meth c AA Q H locs ls hx hb hml hown hts hA hK hP hD hS hl hend0
  have hend : ∀ (r1 : Int32) (H : Heap) (locs : List Loc) (pc : Nat) (ls : Array Slot), some r1 = some r → va_P D vwCl (cRH cI A B w h) H → va_S AA s.heap H locs → decode cX3_firstNotLooseAsIn pc = .ok (.ireturn, 1) → W p l e rm_X3_firstNotLooseAsIn s m args below meth c H locs 0 0 Q (F0 m pc ls [.int r1]) := by
    intro r1 H locs pc ls e1 hP hS hd; cases e1; exact hend0 H locs pc ls hP hS hd
  clear hend0
  have hw3 : ∀ w ∈ wsX30, w ∈ wsX3_firstNotLooseAsIn := by decide +kernel
  have k11 := hts (.fieldLink RX3 11 "AnchorsForConfession$Row" "numbers" "[I") (by decide +kernel)
  have k15 := hts (.fieldLink RX3 15 "AnchorsForConfession$Row" "size" "I") (by decide +kernel)
  replace hl : lv_has ls 3 [(0, .ref (A 0)), (1, .ref (B 0))] := hl
  refine lv_iconst (v := 0) hx hb dX3_firstNotLooseAsIn_0 (by decide) ?_
  refine lv_istore_n (lv' := [(2, .int (0 : Int32)), (0, .ref (A 0)), (1, .ref (B 0))]) hx hb dX3_firstNotLooseAsIn_1 rfl hl (by decide) rfl (fun ls hl => ?_)
  refine lp_ind (P := fun (q2 : Int32) => ∀ (H : Heap) (locs : List Loc) (ls : Array Slot), va_P D vwCl (cRH cI A B w h) H → va_D AA (cRH cI A B w h) → va_S AA s.heap H locs → lv_has ls 3 [(0, .ref (A 0)), (1, .ref (B 0)), (2, .int q2)] → W p l e rm_X3_firstNotLooseAsIn s m args below meth c H locs 0 0 Q (F0 m 2 ls [])) hf ?_ H locs ls hP hD hS (lv_sub hl [1, 2, 0] rfl)
  clear hf hP hD hS hl
  intro nx2 ih2 q2 hf H locs ls hP hD hS hl
  refine lv_iload_n hx hb dX3_firstNotLooseAsIn_2 rfl (lv_at hl 2 rfl) ?_
  refine lv_aload_n hx hb dX3_firstNotLooseAsIn_3 rfl (lv_at hl 0 rfl) ?_
  refine va_get (D := D) (ci := 3) (v := .int (w 1 0)) (C := RX3) (T := TX3) (N := 2) hx hb hts hw3 hown hK hP 0 cRH_at0 rfl 1 (by decide) k15 (fun _ h9 => h9) rfl dX3_firstNotLooseAsIn_4 ?_
  refine lv_icmp_ge (tgt := 40) hx hb dX3_firstNotLooseAsIn_7 (by decide) (fun c_1 => ?_) (fun c_1 => ?_)
  · replace hf := if_t c_1 hf
    refine lv_bipush (v := -9) hx hb dX3_firstNotLooseAsIn_40 (by decide +kernel) ?_
    exact hend (-9 : Int32) H locs _ _ hf hP hS dX3_firstNotLooseAsIn_42
  · replace hf := if_f c_1 hf
    refine lv_aload_n hx hb dX3_firstNotLooseAsIn_10 rfl (lv_at hl 1 rfl) ?_
    refine lv_iload_n hx hb dX3_firstNotLooseAsIn_11 rfl (lv_at hl 2 rfl) ?_
    obtain ⟨a_2, ha_2, hf⟩ := bd_e hf
    refine Ct.callV (As := [.int q2]) (rest := []) (st1 := [.int a_2]) (c_X0_hasShip l D cI B h q2 a_2 ha_2) hx hb hml hown hts (cwV 1 hts gX3_firstNotLooseAsIn_X0_hasShip rfl rfl rfl hd_X0_hasShip ⟨Nat.le_of_ble_eq_true rfl, Nat.le_of_ble_eq_true rfl⟩) (va_recv hK hP (ci := 0) (q0 := 2) rfl cRH_at2) ln_RH_H hA hK hP hD hS rfl hl.1 rfl rfl (Nat.le_of_ble_eq_true rfl) dX3_firstNotLooseAsIn_12 (fun H locs hP hD hS => ?_)
    refine lv_if_eq (tgt := 32) hx hb dX3_firstNotLooseAsIn_15 (by decide) (fun c_3 => ?_) (fun c_3 => ?_)
    · replace hf := if_t c_3 hf
      refine lv_iload_n hx hb dX3_firstNotLooseAsIn_32 rfl (lv_at hl 2 rfl) ?_
      exact hend q2 H locs _ _ hf hP hS dX3_firstNotLooseAsIn_33
    · replace hf := if_f c_3 hf
      refine lv_aload_n hx hb dX3_firstNotLooseAsIn_18 rfl (lv_at hl 1 rfl) ?_
      refine lv_iload_n hx hb dX3_firstNotLooseAsIn_19 rfl (lv_at hl 2 rfl) ?_
      obtain ⟨a_4, ha_4, hf⟩ := bd_e hf
      refine Ct.callS (As := [.ref (B 0), .int q2]) (rest := []) (st1 := [.int a_4]) (c_X3_looseTold l D cI B h q2 a_4 ha_4) hx hb hml hown hts (va_cwS 2 hts gX3_firstNotLooseAsIn_X3_looseTold rfl rfl rfl hd_X3_looseTold ⟨Nat.le_of_ble_eq_true rfl, Nat.le_of_ble_eq_true rfl⟩) ln_RH_H hA hK hP hD hS rfl hl.1 rfl rfl (Nat.le_of_ble_eq_true rfl) dX3_firstNotLooseAsIn_20 (fun H locs hP hD hS => ?_)
      refine lv_aload_n hx hb dX3_firstNotLooseAsIn_23 rfl (lv_at hl 0 rfl) ?_
      refine va_get (D := D) (ci := 3) (v := .ref (A 1)) (C := RX3) (T := TX3) (N := 2) hx hb hts hw3 hown hK hP 0 cRH_at0 rfl 0 (by decide) k11 (fun _ h9 => h9) rfl dX3_firstNotLooseAsIn_24 ?_
      refine lv_iload_n hx hb dX3_firstNotLooseAsIn_27 rfl (lv_at hl 2 rfl) ?_
      obtain ⟨c_5, hf⟩ := gi_e hf
      refine va_iald hx hb hK hP 1 0 cRH_at1 rfl c_5 dX3_firstNotLooseAsIn_28 ?_
      refine lv_icmp_eq (tgt := 34) hx hb dX3_firstNotLooseAsIn_29 (by decide) (fun c_6 => ?_) (fun c_6 => ?_)
      · replace hf := if_t c_6 hf
        obtain ⟨v_7, ev_7, hf⟩ := nq_e hf
        refine lv_iinc (v := v_7) (lv' := [(2, .int v_7), (0, .ref (A 0)), (1, .ref (B 0))]) hx hb dX3_firstNotLooseAsIn_34 hl (k := 2) rfl (by rw [ev_7]; rfl) (by decide) rfl (fun ls hl => ?_)
        refine lv_goto (tgt := 2) hx hb dX3_firstNotLooseAsIn_37 (by decide) ?_
        exact ih2 v_7 hf H locs ls hP hD hS (lv_sub hl [1, 2, 0] rfl)
      · replace hf := if_f c_6 hf
        refine lv_iload_n hx hb dX3_firstNotLooseAsIn_32 rfl (lv_at hl 2 rfl) ?_
        exact hend q2 H locs _ _ hf hP hS dX3_firstNotLooseAsIn_33

def rm_X1_isFull : Room := { frames := 0, cells := 0, slots := 0, locals := 0 }
theorem hd_X1_isFull : yX1_isFull.cls = RX1 ∧ yX1_isFull.cls ≠ "java/lang/invoke/MethodHandle" ∧ yX1_isFull.cls ≠ "java/lang/invoke/VarHandle" ∧ (parseMethodDescriptor yX1_isFull.desc).map (fun d => d.parameters.length) = some 0 := by decide +kernel
set_option maxRecDepth 100000 in
set_option maxHeartbeats 4000000 in
theorem c_X1_isFull (l : Launch) (D : va_G) (cI : ClassId) (A : Nat → Nat) (g : St) (r : Int32) (hf : f_X1_isFull g = some r) : Ct l yX1_isFull wsX1_isFull rm_X1_isFull D cI (cG cI A g) (cG cI A g) [.ref (A 0)] (some (.int r)) := by
  unfold f_X1_isFull at hf
  obtain ⟨hz, hf⟩ := fz_e hf
  refine Ct.ofZ hz (cc := cX1_isFull) (maxL := 1) (by decide +kernel) rfl (Nat.le_of_ble_eq_true rfl) ?_
  intro p e s m args below meth c AA Q H locs ls hx hb hml hown hts hA hK hP hD hS hl hend0
  have hend : ∀ (r1 : Int32) (H : Heap) (locs : List Loc) (pc : Nat) (ls : Array Slot), some r1 = some r → va_P D vwCl (cG cI A g) H → va_S AA s.heap H locs → decode cX1_isFull pc = .ok (.ireturn, 1) → W p l e rm_X1_isFull s m args below meth c H locs 0 0 Q (F0 m pc ls [.int r1]) := by
    intro r1 H locs pc ls e1 hP hS hd; cases e1; exact hend0 H locs pc ls hP hS hd
  clear hend0
  have hw1 : ∀ w ∈ wsX10, w ∈ wsX1_isFull := by decide +kernel
  have k15 := hts (.fieldLink RX1 15 "AnchorsForConfession$Letters" "size" "I") (by decide +kernel)
  replace hl : lv_has ls 1 [(0, .ref (A 0))] := hl
  refine lv_aload_n hx hb dX1_isFull_0 rfl (lv_at hl 0 rfl) ?_
  refine va_get (D := D) (ci := 1) (v := .int (g 1 0)) (C := RX1) (T := TX1) (N := 2) hx hb hts hw1 hown hK hP 0 cG_at0 rfl 1 (by decide) k15 (fun _ h9 => h9) rfl dX1_isFull_1 ?_
  refine lv_bipush (v := 96) hx hb dX1_isFull_4 (by decide +kernel) ?_
  refine lv_icmp_lt (tgt := 13) hx hb dX1_isFull_6 (by decide) (fun c_1 => ?_) (fun c_1 => ?_)
  · replace hf := if_t c_1 hf
    refine lv_iconst (v := 0) hx hb dX1_isFull_13 (by decide) ?_
    exact hend (0 : Int32) H locs _ _ hf hP hS dX1_isFull_14
  · replace hf := if_f c_1 hf
    refine lv_iconst (v := 1) hx hb dX1_isFull_9 (by decide) ?_
    refine lv_goto (tgt := 14) hx hb dX1_isFull_10 (by decide) ?_
    exact hend (1 : Int32) H locs _ _ hf hP hS dX1_isFull_14

def rm_X1_add : Room := { frames := 0, cells := 0, slots := 0, locals := 0 }
theorem hd_X1_add : yX1_add.cls = RX1 ∧ yX1_add.cls ≠ "java/lang/invoke/MethodHandle" ∧ yX1_add.cls ≠ "java/lang/invoke/VarHandle" ∧ (parseMethodDescriptor yX1_add.desc).map (fun d => d.parameters.length) = some 1 := by decide +kernel
set_option maxRecDepth 100000 in
set_option maxHeartbeats 4000000 in
theorem c_X1_add (l : Launch) (D : va_G) (cI : ClassId) (A : Nat → Nat) (g : St) (p1 : Int32) (r : Int32 × St) (hf : f_X1_add g p1 = some r) : Ct l yX1_add wsX1_add rm_X1_add D cI (cG cI A g) (cG cI A r.2) [.ref (A 0), .int p1] (some (.int r.1)) := by
  unfold f_X1_add at hf
  refine Ct.ofI (cc := cX1_add) (maxL := 2) (by decide +kernel) rfl (Nat.le_of_ble_eq_true rfl) ?_
  intro p e s m args below meth c AA Q H locs ls hx hb hml hown hts hA hK hP hD hS hl hend0
  have hend : ∀ (r1 : Int32 × St) (H : Heap) (locs : List Loc) (pc : Nat) (ls : Array Slot), some r1 = some r → va_P D vwCl (cG cI A r1.2) H → va_S AA s.heap H locs → decode cX1_add pc = .ok (.ireturn, 1) → W p l e rm_X1_add s m args below meth c H locs 0 0 Q (F0 m pc ls [.int r1.1]) := by
    intro r1 H locs pc ls e1 hP hS hd; cases e1; exact hend0 H locs pc ls hP hS hd
  clear hend0
  have hw1 : ∀ w ∈ wsX10, w ∈ wsX1_add := by decide +kernel
  have k11 := hts (.fieldLink RX1 11 "AnchorsForConfession$Letters" "signs" "[I") (by decide +kernel)
  have k15 := hts (.fieldLink RX1 15 "AnchorsForConfession$Letters" "size" "I") (by decide +kernel)
  replace hl : lv_has ls 2 [(0, .ref (A 0)), (1, .int p1)] := hl
  refine lv_aload_n hx hb dX1_add_0 rfl (lv_at hl 0 rfl) ?_
  refine va_get (D := D) (ci := 1) (v := .int (g 1 0)) (C := RX1) (T := TX1) (N := 2) hx hb hts hw1 hown hK hP 0 cG_at0 rfl 1 (by decide) k15 (fun _ h9 => h9) rfl dX1_add_1 ?_
  refine lv_bipush (v := 96) hx hb dX1_add_4 (by decide +kernel) ?_
  refine lv_icmp_ge (tgt := 29) hx hb dX1_add_6 (by decide) (fun c_1 => ?_) (fun c_1 => ?_)
  · replace hf := if_t c_1 hf
    refine lv_aload_n hx hb dX1_add_29 rfl (lv_at hl 0 rfl) ?_
    refine va_get (D := D) (ci := 1) (v := .int (g 1 0)) (C := RX1) (T := TX1) (N := 2) hx hb hts hw1 hown hK hP 0 cG_at0 rfl 1 (by decide) k15 (fun _ h9 => h9) rfl dX1_add_30 ?_
    exact hend ((g 1 0), g) H locs _ _ hf hP hS dX1_add_33
  · replace hf := if_f c_1 hf
    refine lv_aload_n hx hb dX1_add_9 rfl (lv_at hl 0 rfl) ?_
    refine va_get (D := D) (ci := 1) (v := .ref (A 1)) (C := RX1) (T := TX1) (N := 2) hx hb hts hw1 hown hK hP 0 cG_at0 rfl 0 (by decide) k11 (fun _ h9 => h9) rfl dX1_add_10 ?_
    refine lv_aload_n hx hb dX1_add_13 rfl (lv_at hl 0 rfl) ?_
    refine va_get (D := D) (ci := 1) (v := .int (g 1 0)) (C := RX1) (T := TX1) (N := 2) hx hb hts hw1 hown hK hP 0 cG_at0 rfl 1 (by decide) k15 (fun _ h9 => h9) rfl dX1_add_14 ?_
    refine lv_iload_n hx hb dX1_add_17 rfl (lv_at hl 1 rfl) ?_
    obtain ⟨c_2, hf⟩ := gi_e hf
    refine va_iast hx hb hK hP hD hS 1 0 cG_at1 rfl c_2 dX1_add_18 (fun H locs hP hD hS => ?_)
    obtain ⟨h_3, eh_3, hf⟩ := nq_e hf
    rw [cG_su1, ← eh_3] at hP hD
    refine lv_aload_n hx hb dX1_add_19 rfl (lv_at hl 0 rfl) ?_
    refine lv_dup hx hb dX1_add_20 rfl ?_
    refine va_get (D := D) (ci := 1) (v := .int (h_3 1 0)) (C := RX1) (T := TX1) (N := 2) hx hb hts hw1 hown hK hP 0 cG_at0 rfl 1 (by decide) k15 (fun _ h9 => h9) rfl dX1_add_21 ?_
    refine lv_iconst (v := 1) hx hb dX1_add_24 (by decide) ?_
    refine lv_iadd hx hb dX1_add_25 ?_
    refine va_put (D := D) (ci := 1) (v := .int ((h_3 1 0) + (1 : Int32))) (ty := .int) (C := RX1) (T := TX1) (N := 2) hx hb hts hw1 tyX1 tyX1_ok nmX1 hown hK hP hD hS 0 cG_at0 rfl 1 (by decide) k15 (fun _ h9 => h9) rfl (tyX1_ok 1 (by decide)) rfl rfl (Nat.le_of_ble_eq_true rfl) dX1_add_26 (fun H locs hP hD hS => ?_)
    obtain ⟨h_4, eh_4, hf⟩ := nq_e hf
    rw [cG_sc0_1, ← eh_4] at hP hD
    refine lv_aload_n hx hb dX1_add_29 rfl (lv_at hl 0 rfl) ?_
    refine va_get (D := D) (ci := 1) (v := .int (h_4 1 0)) (C := RX1) (T := TX1) (N := 2) hx hb hts hw1 hown hK hP 0 cG_at0 rfl 1 (by decide) k15 (fun _ h9 => h9) rfl dX1_add_30 ?_
    exact hend ((h_4 1 0), h_4) H locs _ _ hf hP hS dX1_add_33

def rm_X1_drop : Room := { frames := 0, cells := 0, slots := 0, locals := 0 }
theorem hd_X1_drop : yX1_drop.cls = RX1 ∧ yX1_drop.cls ≠ "java/lang/invoke/MethodHandle" ∧ yX1_drop.cls ≠ "java/lang/invoke/VarHandle" ∧ (parseMethodDescriptor yX1_drop.desc).map (fun d => d.parameters.length) = some 0 := by decide +kernel
set_option maxRecDepth 100000 in
set_option maxHeartbeats 4000000 in
theorem c_X1_drop (l : Launch) (D : va_G) (cI : ClassId) (A : Nat → Nat) (g : St) (r : St) (hf : f_X1_drop g = some r) : Ct l yX1_drop wsX1_drop rm_X1_drop D cI (cG cI A g) (cG cI A r) [.ref (A 0)] none := by
  unfold f_X1_drop at hf
  refine Ct.ofV (cc := cX1_drop) (maxL := 1) (by decide +kernel) rfl (Nat.le_of_ble_eq_true rfl) ?_
  intro p e s m args below meth c AA Q H locs ls hx hb hml hown hts hA hK hP hD hS hl hend0
  have hend : ∀ (r1 : St) (H : Heap) (locs : List Loc) (pc : Nat) (ls : Array Slot), some r1 = some r → va_P D vwCl (cG cI A r1) H → va_S AA s.heap H locs → decode cX1_drop pc = .ok (.return_, 1) → W p l e rm_X1_drop s m args below meth c H locs 0 0 Q (F0 m pc ls []) := by
    intro r1 H locs pc ls e1 hP hS hd; cases e1; exact hend0 H locs pc ls hP hS hd
  clear hend0
  have hw1 : ∀ w ∈ wsX10, w ∈ wsX1_drop := by decide +kernel
  have k15 := hts (.fieldLink RX1 15 "AnchorsForConfession$Letters" "size" "I") (by decide +kernel)
  replace hl : lv_has ls 1 [(0, .ref (A 0))] := hl
  refine lv_aload_n hx hb dX1_drop_0 rfl (lv_at hl 0 rfl) ?_
  refine lv_iconst (v := 0) hx hb dX1_drop_1 (by decide) ?_
  refine va_put (D := D) (ci := 1) (v := .int (0 : Int32)) (ty := .int) (C := RX1) (T := TX1) (N := 2) hx hb hts hw1 tyX1 tyX1_ok nmX1 hown hK hP hD hS 0 cG_at0 rfl 1 (by decide) k15 (fun _ h9 => h9) rfl (tyX1_ok 1 (by decide)) rfl rfl (Nat.le_of_ble_eq_true rfl) dX1_drop_2 (fun H locs hP hD hS => ?_)
  obtain ⟨h_1, eh_1, hf⟩ := nq_e hf
  rw [cG_sc0_1, ← eh_1] at hP hD
  exact hend h_1 H locs _ _ hf hP hS dX1_drop_5

def rm_X1_signAt : Room := { frames := 0, cells := 0, slots := 0, locals := 0 }
theorem hd_X1_signAt : yX1_signAt.cls = RX1 ∧ yX1_signAt.cls ≠ "java/lang/invoke/MethodHandle" ∧ yX1_signAt.cls ≠ "java/lang/invoke/VarHandle" ∧ (parseMethodDescriptor yX1_signAt.desc).map (fun d => d.parameters.length) = some 1 := by decide +kernel
set_option maxRecDepth 100000 in
set_option maxHeartbeats 4000000 in
theorem c_X1_signAt (l : Launch) (D : va_G) (cI : ClassId) (A : Nat → Nat) (g : St) (p1 : Int32) (r : Int32) (hf : f_X1_signAt g p1 = some r) : Ct l yX1_signAt wsX1_signAt rm_X1_signAt D cI (cG cI A g) (cG cI A g) [.ref (A 0), .int p1] (some (.int r)) := by
  unfold f_X1_signAt at hf
  refine Ct.ofI (cc := cX1_signAt) (maxL := 2) (by decide +kernel) rfl (Nat.le_of_ble_eq_true rfl) ?_
  intro p e s m args below meth c AA Q H locs ls hx hb hml hown hts hA hK hP hD hS hl hend0
  have hend : ∀ (r1 : Int32) (H : Heap) (locs : List Loc) (pc : Nat) (ls : Array Slot), some r1 = some r → va_P D vwCl (cG cI A g) H → va_S AA s.heap H locs → decode cX1_signAt pc = .ok (.ireturn, 1) → W p l e rm_X1_signAt s m args below meth c H locs 0 0 Q (F0 m pc ls [.int r1]) := by
    intro r1 H locs pc ls e1 hP hS hd; cases e1; exact hend0 H locs pc ls hP hS hd
  clear hend0
  have hw1 : ∀ w ∈ wsX10, w ∈ wsX1_signAt := by decide +kernel
  have k11 := hts (.fieldLink RX1 11 "AnchorsForConfession$Letters" "signs" "[I") (by decide +kernel)
  have k15 := hts (.fieldLink RX1 15 "AnchorsForConfession$Letters" "size" "I") (by decide +kernel)
  replace hl : lv_has ls 2 [(0, .ref (A 0)), (1, .int p1)] := hl
  refine lv_iload_n hx hb dX1_signAt_0 rfl (lv_at hl 1 rfl) ?_
  refine lv_if_lt (tgt := 21) hx hb dX1_signAt_1 (by decide) (fun c_1 => ?_) (fun c_1 => ?_)
  · replace hf := if_t c_1 hf
    refine lv_iconst (v := 0) hx hb dX1_signAt_21 (by decide) ?_
    exact hend (0 : Int32) H locs _ _ hf hP hS dX1_signAt_22
  · replace hf := if_f c_1 hf
    refine lv_iload_n hx hb dX1_signAt_4 rfl (lv_at hl 1 rfl) ?_
    refine lv_aload_n hx hb dX1_signAt_5 rfl (lv_at hl 0 rfl) ?_
    refine va_get (D := D) (ci := 1) (v := .int (g 1 0)) (C := RX1) (T := TX1) (N := 2) hx hb hts hw1 hown hK hP 0 cG_at0 rfl 1 (by decide) k15 (fun _ h9 => h9) rfl dX1_signAt_6 ?_
    refine lv_icmp_ge (tgt := 21) hx hb dX1_signAt_9 (by decide) (fun c_2 => ?_) (fun c_2 => ?_)
    · replace hf := if_t c_2 hf
      refine lv_iconst (v := 0) hx hb dX1_signAt_21 (by decide) ?_
      exact hend (0 : Int32) H locs _ _ hf hP hS dX1_signAt_22
    · replace hf := if_f c_2 hf
      refine lv_aload_n hx hb dX1_signAt_12 rfl (lv_at hl 0 rfl) ?_
      refine va_get (D := D) (ci := 1) (v := .ref (A 1)) (C := RX1) (T := TX1) (N := 2) hx hb hts hw1 hown hK hP 0 cG_at0 rfl 0 (by decide) k11 (fun _ h9 => h9) rfl dX1_signAt_13 ?_
      refine lv_iload_n hx hb dX1_signAt_16 rfl (lv_at hl 1 rfl) ?_
      obtain ⟨c_3, hf⟩ := gi_e hf
      refine va_iald hx hb hK hP 1 0 cG_at1 rfl c_3 dX1_signAt_17 ?_
      refine lv_goto (tgt := 22) hx hb dX1_signAt_18 (by decide) ?_
      exact hend (g 0 (p1).toNatClampNeg) H locs _ _ hf hP hS dX1_signAt_22

def rm_X1_digit : Room := { frames := 1, cells := 0, slots := 0, locals := 21 }
theorem hd_X1_digit : yX1_digit.cls = RX1 ∧ yX1_digit.cls ≠ "java/lang/invoke/MethodHandle" ∧ yX1_digit.cls ≠ "java/lang/invoke/VarHandle" ∧ (parseMethodDescriptor yX1_digit.desc).map (fun d => d.parameters.length) = some 1 := by decide +kernel
set_option maxRecDepth 100000 in
set_option maxHeartbeats 4000000 in
theorem c_X1_digit (l : Launch) (D : va_G) (cI : ClassId) (A : Nat → Nat) (g : St) (p1 : Int32) (r : Int32) (hf : f_X1_digit g p1 = some r) : Ct l yX1_digit wsX1_digit rm_X1_digit D cI (cG cI A g) (cG cI A g) [.ref (A 0), .int p1] (some (.int r)) := by
  unfold f_X1_digit at hf
  refine Ct.ofI (cc := cX1_digit) (maxL := 2) (by decide +kernel) rfl (Nat.le_of_ble_eq_true rfl) ?_
  intro p e s m args below meth c AA Q H locs ls hx hb hml hown hts hA hK hP hD hS hl hend0
  have hend : ∀ (r1 : Int32) (H : Heap) (locs : List Loc) (pc : Nat) (ls : Array Slot), some r1 = some r → va_P D vwCl (cG cI A g) H → va_S AA s.heap H locs → decode cX1_digit pc = .ok (.ireturn, 1) → W p l e rm_X1_digit s m args below meth c H locs 0 0 Q (F0 m pc ls [.int r1]) := by
    intro r1 H locs pc ls e1 hP hS hd; cases e1; exact hend0 H locs pc ls hP hS hd
  clear hend0
  replace hl : lv_has ls 2 [(0, .ref (A 0)), (1, .int p1)] := hl
  refine lv_aload_n hx hb dX1_digit_0 rfl (lv_at hl 0 rfl) ?_
  refine lv_iload_n hx hb dX1_digit_1 rfl (lv_at hl 1 rfl) ?_
  obtain ⟨a_1, ha_1, hf⟩ := bd_e hf
  refine Ct.callV (As := [.int p1]) (rest := []) (st1 := [.int a_1]) (c_X1_signAt l D cI A g p1 a_1 ha_1) hx hb hml hown hts (cwV 1 hts gX1_digit_X1_signAt rfl rfl rfl hd_X1_signAt ⟨Nat.le_of_ble_eq_true rfl, Nat.le_of_ble_eq_true rfl⟩) (va_recv hK hP (ci := 1) (q0 := 0) rfl cG_at0) (Ln.id rfl) hA hK hP hD hS rfl hl.1 rfl rfl (Nat.le_of_ble_eq_true rfl) dX1_digit_2 (fun H locs hP hD hS => ?_)
  refine lv_bipush (v := 48) hx hb dX1_digit_5 (by decide +kernel) ?_
  refine lv_isub hx hb dX1_digit_7 ?_
  exact hend (a_1 - (48 : Int32)) H locs _ _ hf hP hS dX1_digit_8

def rm_X1_boardingHappens : Room := { frames := 1, cells := 0, slots := 0, locals := 21 }
theorem hd_X1_boardingHappens : yX1_boardingHappens.cls ≠ "java/lang/invoke/MethodHandle" ∧ yX1_boardingHappens.cls ≠ "java/lang/invoke/VarHandle" ∧ (parseMethodDescriptor yX1_boardingHappens.desc).map (fun d => d.parameters.length) = some 3 := by decide +kernel
set_option maxRecDepth 100000 in
set_option maxHeartbeats 4000000 in
theorem c_X1_boardingHappens (l : Launch) (D : va_G) (cI : ClassId) (A : Nat → Nat) (h : St) (p1 : Int32) (p2 : Int32) (r : Int32 × St) (hf : f_X1_boardingHappens h p1 p2 = some r) : Ct l yX1_boardingHappens wsX1_boardingHappens rm_X1_boardingHappens D cI (cH cI A h) (cH cI A r.2) [.int p1, .int p2, .ref (A 0)] (some (.int r.1)) := by
  unfold f_X1_boardingHappens at hf
  obtain ⟨hz, hf⟩ := fzp_e hf
  refine Ct.ofZ hz (cc := cX1_boardingHappens) (maxL := 3) (by decide +kernel) rfl (Nat.le_of_ble_eq_true rfl) ?_
  intro p e s m args below meth c AA Q H locs ls hx hb hml hown hts hA hK hP hD hS hl hend0
  have hend : ∀ (r1 : Int32 × St) (H : Heap) (locs : List Loc) (pc : Nat) (ls : Array Slot), some r1 = some r → va_P D vwCl (cH cI A r1.2) H → va_S AA s.heap H locs → decode cX1_boardingHappens pc = .ok (.ireturn, 1) → W p l e rm_X1_boardingHappens s m args below meth c H locs 0 0 Q (F0 m pc ls [.int r1.1]) := by
    intro r1 H locs pc ls e1 hP hS hd; cases e1; exact hend0 H locs pc ls hP hS hd
  clear hend0
  have hw0 : ∀ w ∈ wsX00, w ∈ wsX1_boardingHappens := by decide +kernel
  have k103 := hts (.fieldLink RX1 103 "AnchorsForConfession$Harbour" "aboard" "[I") (by decide +kernel)
  replace hl : lv_has ls 3 [(0, .int p1), (1, .int p2), (2, .ref (A 0))] := hl
  refine lv_aload_n hx hb dX1_boardingHappens_0 rfl (lv_at hl 2 rfl) ?_
  refine lv_iload_n hx hb dX1_boardingHappens_1 rfl (lv_at hl 0 rfl) ?_
  obtain ⟨a_1, ha_1, hf⟩ := bd_e hf
  refine Ct.callV (As := [.int p1]) (rest := []) (st1 := [.int a_1]) (c_X0_hasMan l D cI A h p1 a_1 ha_1) hx hb hml hown hts (cwV 1 hts gX1_boardingHappens_X0_hasMan rfl rfl rfl hd_X0_hasMan ⟨Nat.le_of_ble_eq_true rfl, Nat.le_of_ble_eq_true rfl⟩) (va_recv hK hP (ci := 0) (q0 := 0) rfl cH_at0) (Ln.id rfl) hA hK hP hD hS rfl hl.1 rfl rfl (Nat.le_of_ble_eq_true rfl) dX1_boardingHappens_2 (fun H locs hP hD hS => ?_)
  refine lv_if_eq (tgt := 16) hx hb dX1_boardingHappens_5 (by decide) (fun c_2 => ?_) (fun c_2 => ?_)
  · replace hf := if_t c_2 hf
    refine lv_iconst (v := 0) hx hb dX1_boardingHappens_16 (by decide) ?_
    exact hend ((0 : Int32), h) H locs _ _ hf hP hS dX1_boardingHappens_17
  · replace hf := if_f c_2 hf
    refine lv_aload_n hx hb dX1_boardingHappens_8 rfl (lv_at hl 2 rfl) ?_
    refine lv_iload_n hx hb dX1_boardingHappens_9 rfl (lv_at hl 1 rfl) ?_
    obtain ⟨a_3, ha_3, hf⟩ := bd_e hf
    refine Ct.callV (As := [.int p2]) (rest := []) (st1 := [.int a_3]) (c_X0_hasShip l D cI A h p2 a_3 ha_3) hx hb hml hown hts (cwV 1 hts gX1_boardingHappens_X0_hasShip rfl rfl rfl hd_X0_hasShip ⟨Nat.le_of_ble_eq_true rfl, Nat.le_of_ble_eq_true rfl⟩) (va_recv hK hP (ci := 0) (q0 := 0) rfl cH_at0) (Ln.id rfl) hA hK hP hD hS rfl hl.1 rfl rfl (Nat.le_of_ble_eq_true rfl) dX1_boardingHappens_10 (fun H locs hP hD hS => ?_)
    refine lv_if_ne (tgt := 18) hx hb dX1_boardingHappens_13 (by decide) (fun c_4 => ?_) (fun c_4 => ?_)
    · replace hf := if_f c_4 hf
      refine lv_aload_n hx hb dX1_boardingHappens_18 rfl (lv_at hl 2 rfl) ?_
      refine va_get (D := D) (ci := 0) (v := .ref (A 7)) (C := RX0) (T := TX0) (N := 12) hx hb hts hw0 hown hK hP 0 cH_at0 rfl 8 (by decide) k103 (fun _ h9 => h9) rfl dX1_boardingHappens_19 ?_
      refine lv_iload_n hx hb dX1_boardingHappens_22 rfl (lv_at hl 0 rfl) ?_
      refine lv_iload_n hx hb dX1_boardingHappens_23 rfl (lv_at hl 1 rfl) ?_
      obtain ⟨c_5, hf⟩ := gi_e hf
      refine va_iast hx hb hK hP hD hS 7 0 cH_at7 rfl c_5 dX1_boardingHappens_24 (fun H locs hP hD hS => ?_)
      obtain ⟨h_6, eh_6, hf⟩ := nq_e hf
      rw [cH_su7, ← eh_6] at hP hD
      refine lv_iconst (v := 1) hx hb dX1_boardingHappens_25 (by decide) ?_
      exact hend ((1 : Int32), h_6) H locs _ _ hf hP hS dX1_boardingHappens_26
    · replace hf := if_t c_4 hf
      refine lv_iconst (v := 0) hx hb dX1_boardingHappens_16 (by decide) ?_
      exact hend ((0 : Int32), h) H locs _ _ hf hP hS dX1_boardingHappens_17

def rm_X1_sinsHappen : Room := { frames := 1, cells := 0, slots := 0, locals := 21 }
theorem hd_X1_sinsHappen : yX1_sinsHappen.cls ≠ "java/lang/invoke/MethodHandle" ∧ yX1_sinsHappen.cls ≠ "java/lang/invoke/VarHandle" ∧ (parseMethodDescriptor yX1_sinsHappen.desc).map (fun d => d.parameters.length) = some 3 := by decide +kernel
set_option maxRecDepth 100000 in
set_option maxHeartbeats 4000000 in
theorem c_X1_sinsHappen (l : Launch) (D : va_G) (cI : ClassId) (A : Nat → Nat) (h : St) (p1 : Int32) (p2 : Int32) (r : Int32 × St) (hf : f_X1_sinsHappen h p1 p2 = some r) : Ct l yX1_sinsHappen wsX1_sinsHappen rm_X1_sinsHappen D cI (cH cI A h) (cH cI A r.2) [.int p1, .int p2, .ref (A 0)] (some (.int r.1)) := by
  unfold f_X1_sinsHappen at hf
  obtain ⟨hz, hf⟩ := fzp_e hf
  refine Ct.ofZ hz (cc := cX1_sinsHappen) (maxL := 3) (by decide +kernel) rfl (Nat.le_of_ble_eq_true rfl) ?_
  intro p e s m args below meth c AA Q H locs ls hx hb hml hown hts hA hK hP hD hS hl hend0
  have hend : ∀ (r1 : Int32 × St) (H : Heap) (locs : List Loc) (pc : Nat) (ls : Array Slot), some r1 = some r → va_P D vwCl (cH cI A r1.2) H → va_S AA s.heap H locs → decode cX1_sinsHappen pc = .ok (.ireturn, 1) → W p l e rm_X1_sinsHappen s m args below meth c H locs 0 0 Q (F0 m pc ls [.int r1.1]) := by
    intro r1 H locs pc ls e1 hP hS hd; cases e1; exact hend0 H locs pc ls hP hS hd
  clear hend0
  have hw0 : ∀ w ∈ wsX00, w ∈ wsX1_sinsHappen := by decide +kernel
  have k106 := hts (.fieldLink RX1 106 "AnchorsForConfession$Harbour" "sinsOf" "[I") (by decide +kernel)
  replace hl : lv_has ls 3 [(0, .int p1), (1, .int p2), (2, .ref (A 0))] := hl
  refine lv_aload_n hx hb dX1_sinsHappen_0 rfl (lv_at hl 2 rfl) ?_
  refine lv_iload_n hx hb dX1_sinsHappen_1 rfl (lv_at hl 0 rfl) ?_
  obtain ⟨a_1, ha_1, hf⟩ := bd_e hf
  refine Ct.callV (As := [.int p1]) (rest := []) (st1 := [.int a_1]) (c_X0_hasMan l D cI A h p1 a_1 ha_1) hx hb hml hown hts (cwV 1 hts gX1_sinsHappen_X0_hasMan rfl rfl rfl hd_X0_hasMan ⟨Nat.le_of_ble_eq_true rfl, Nat.le_of_ble_eq_true rfl⟩) (va_recv hK hP (ci := 0) (q0 := 0) rfl cH_at0) (Ln.id rfl) hA hK hP hD hS rfl hl.1 rfl rfl (Nat.le_of_ble_eq_true rfl) dX1_sinsHappen_2 (fun H locs hP hD hS => ?_)
  refine lv_if_ne (tgt := 10) hx hb dX1_sinsHappen_5 (by decide) (fun c_2 => ?_) (fun c_2 => ?_)
  · replace hf := if_f c_2 hf
    refine lv_aload_n hx hb dX1_sinsHappen_10 rfl (lv_at hl 2 rfl) ?_
    refine va_get (D := D) (ci := 0) (v := .ref (A 6)) (C := RX0) (T := TX0) (N := 12) hx hb hts hw0 hown hK hP 0 cH_at0 rfl 7 (by decide) k106 (fun _ h9 => h9) rfl dX1_sinsHappen_11 ?_
    refine lv_iload_n hx hb dX1_sinsHappen_14 rfl (lv_at hl 0 rfl) ?_
    refine lv_iload_n hx hb dX1_sinsHappen_15 rfl (lv_at hl 1 rfl) ?_
    obtain ⟨c_3, hf⟩ := gi_e hf
    refine va_iast hx hb hK hP hD hS 6 0 cH_at6 rfl c_3 dX1_sinsHappen_16 (fun H locs hP hD hS => ?_)
    obtain ⟨h_4, eh_4, hf⟩ := nq_e hf
    rw [cH_su6, ← eh_4] at hP hD
    refine lv_iconst (v := 1) hx hb dX1_sinsHappen_17 (by decide) ?_
    exact hend ((1 : Int32), h_4) H locs _ _ hf hP hS dX1_sinsHappen_18
  · replace hf := if_t c_2 hf
    refine lv_iconst (v := 0) hx hb dX1_sinsHappen_8 (by decide) ?_
    exact hend ((0 : Int32), h) H locs _ _ hf hP hS dX1_sinsHappen_9

def rm_X1_tidesHappen : Room := { frames := 3, cells := 0, slots := 0, locals := 64 }
theorem hd_X1_tidesHappen : yX1_tidesHappen.cls ≠ "java/lang/invoke/MethodHandle" ∧ yX1_tidesHappen.cls ≠ "java/lang/invoke/VarHandle" ∧ (parseMethodDescriptor yX1_tidesHappen.desc).map (fun d => d.parameters.length) = some 2 := by decide +kernel
set_option maxRecDepth 100000 in
set_option maxHeartbeats 4000000 in
theorem c_X1_tidesHappen (l : Launch) (D : va_G) (cI : ClassId) (A : Nat → Nat) (h : St) (p1 : Int32) (r : Int32 × St) (hf : f_X1_tidesHappen h p1 = some r) : Ct l yX1_tidesHappen wsX1_tidesHappen rm_X1_tidesHappen D cI (cH cI A h) (cH cI A r.2) [.int p1, .ref (A 0)] (some (.int r.1)) := by
  unfold f_X1_tidesHappen at hf
  obtain ⟨hz, hf⟩ := fzp_e hf
  refine Ct.ofZ hz (cc := cX1_tidesHappen) (maxL := 2) (by decide +kernel) rfl (Nat.le_of_ble_eq_true rfl) ?_
  intro p e s m args below meth c AA Q H locs ls hx hb hml hown hts hA hK hP hD hS hl hend0
  have hend : ∀ (r1 : Int32 × St) (H : Heap) (locs : List Loc) (pc : Nat) (ls : Array Slot), some r1 = some r → va_P D vwCl (cH cI A r1.2) H → va_S AA s.heap H locs → decode cX1_tidesHappen pc = .ok (.ireturn, 1) → W p l e rm_X1_tidesHappen s m args below meth c H locs 0 0 Q (F0 m pc ls [.int r1.1]) := by
    intro r1 H locs pc ls e1 hP hS hd; cases e1; exact hend0 H locs pc ls hP hS hd
  clear hend0
  replace hl : lv_has ls 2 [(0, .int p1), (1, .ref (A 0))] := hl
  refine lv_iload_n hx hb dX1_tidesHappen_0 rfl (lv_at hl 0 rfl) ?_
  refine lv_iconst (v := 1) hx hb dX1_tidesHappen_1 (by decide) ?_
  refine lv_icmp_lt (tgt := 19) hx hb dX1_tidesHappen_2 (by decide) (fun c_1 => ?_) (fun c_1 => ?_)
  · replace hf := if_t c_1 hf
    refine lv_iconst (v := 0) hx hb dX1_tidesHappen_19 (by decide) ?_
    exact hend ((0 : Int32), h) H locs _ _ hf hP hS dX1_tidesHappen_20
  · replace hf := if_f c_1 hf
    refine lv_iload_n hx hb dX1_tidesHappen_5 rfl (lv_at hl 0 rfl) ?_
    refine lv_bipush (v := 60) hx hb dX1_tidesHappen_6 (by decide +kernel) ?_
    refine lv_icmp_gt (tgt := 19) hx hb dX1_tidesHappen_8 (by decide) (fun c_2 => ?_) (fun c_2 => ?_)
    · replace hf := if_t c_2 hf
      refine lv_iconst (v := 0) hx hb dX1_tidesHappen_19 (by decide) ?_
      exact hend ((0 : Int32), h) H locs _ _ hf hP hS dX1_tidesHappen_20
    · replace hf := if_f c_2 hf
      refine lv_aload_n hx hb dX1_tidesHappen_11 rfl (lv_at hl 1 rfl) ?_
      refine lv_iload_n hx hb dX1_tidesHappen_12 rfl (lv_at hl 0 rfl) ?_
      obtain ⟨a_3, ha_3, hf⟩ := bd_e hf
      refine Ct.callV (As := [.int p1]) (rest := []) (st1 := [.int a_3]) (c_X0_hasTidesLeft l D cI A h p1 a_3 ha_3) hx hb hml hown hts (cwV 1 hts gX1_tidesHappen_X0_hasTidesLeft rfl rfl rfl hd_X0_hasTidesLeft ⟨Nat.le_of_ble_eq_true rfl, Nat.le_of_ble_eq_true rfl⟩) (va_recv hK hP (ci := 0) (q0 := 0) rfl cH_at0) (Ln.id rfl) hA hK hP hD hS rfl hl.1 rfl rfl (Nat.le_of_ble_eq_true rfl) dX1_tidesHappen_13 (fun H locs hP hD hS => ?_)
      refine lv_if_ne (tgt := 21) hx hb dX1_tidesHappen_16 (by decide) (fun c_4 => ?_) (fun c_4 => ?_)
      · replace hf := if_f c_4 hf
        refine lv_aload_n hx hb dX1_tidesHappen_21 rfl (lv_at hl 1 rfl) ?_
        refine lv_iload_n hx hb dX1_tidesHappen_22 rfl (lv_at hl 0 rfl) ?_
        obtain ⟨a_5, ha_5, hf⟩ := bd_e hf
        refine Ct.callV (As := [.int p1]) (rest := []) (st1 := []) (c_X0_passTides l D cI A h p1 a_5 ha_5) hx hb hml hown hts (cwV 1 hts gX1_tidesHappen_X0_passTides rfl rfl rfl hd_X0_passTides ⟨Nat.le_of_ble_eq_true rfl, Nat.le_of_ble_eq_true rfl⟩) (va_recv hK hP (ci := 0) (q0 := 0) rfl cH_at0) (Ln.id rfl) hA hK hP hD hS rfl hl.1 rfl rfl (Nat.le_of_ble_eq_true rfl) dX1_tidesHappen_23 (fun H locs hP hD hS => ?_)
        replace hP : va_P D vwCl (cH cI A a_5) H := hP
        replace hD : va_D AA (cH cI A a_5) := hD
        refine lv_iconst (v := 1) hx hb dX1_tidesHappen_26 (by decide) ?_
        exact hend ((1 : Int32), a_5) H locs _ _ hf hP hS dX1_tidesHappen_27
      · replace hf := if_t c_4 hf
        refine lv_iconst (v := 0) hx hb dX1_tidesHappen_19 (by decide) ?_
        exact hend ((0 : Int32), h) H locs _ _ hf hP hS dX1_tidesHappen_20
