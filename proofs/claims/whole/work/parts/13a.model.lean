def rm_X5_no : Room := { frames := 0, cells := 0, slots := 0, locals := 0 }
theorem hd_X5_no : yX5_no.cls = RX5 ∧ yX5_no.cls ≠ "java/lang/invoke/MethodHandle" ∧ yX5_no.cls ≠ "java/lang/invoke/VarHandle" ∧ (parseMethodDescriptor yX5_no.desc).map (fun d => d.parameters.length) = some 1 := by decide +kernel
set_option maxRecDepth 100000 in
set_option maxHeartbeats 4000000 in
theorem c_X5_no (l : Launch) (D : va_G) (cI : ClassId) (A : Nat → Nat) (M : St) (p1 : Int32) (r : Int32 × St) (hf : f_X5_no M p1 = some r) : Ct l yX5_no wsX5_no rm_X5_no D cI (cM cI A M) (cM cI A r.2) [.ref (A 0), .int p1] (some (.int r.1)) := by
  unfold f_X5_no at hf
  refine Ct.ofI (cc := cX5_no) (maxL := 2) (by decide +kernel) rfl (Nat.le_of_ble_eq_true rfl) ?_
  intro p e s m args below meth c AA Q H locs ls hx hb hml hown hts hA hK hP hD hS hl hend0
  have hend : ∀ (r1 : Int32 × St) (H : Heap) (locs : List Loc) (pc : Nat) (ls : Array Slot), some r1 = some r → va_P D vwCl (cM cI A r1.2) H → va_S AA s.heap H locs → decode cX5_no pc = .ok (.ireturn, 1) → W p l e rm_X5_no s m args below meth c H locs 0 0 Q (F0 m pc ls [.int r1.1]) := by
    intro r1 H locs pc ls e1 hP hS hd; cases e1; exact hend0 H locs pc ls hP hS hd
  clear hend0
  have hw5 : ∀ w ∈ wsX50, w ∈ wsX5_no := by decide +kernel
  have k7 := hts (.fieldLink RX5 7 "AnchorsForConfessionModel" "refused" "[I") (by decide +kernel)
  replace hl : lv_has ls 2 [(0, .ref (A 0)), (1, .int p1)] := hl
  refine lv_aload_n hx hb dX5_no_0 rfl (lv_at hl 0 rfl) ?_
  refine va_get (D := D) (ci := 5) (v := .ref (A 1)) (C := RX5) (T := TX5) (N := 27) hx hb hts hw5 hown hK hP 0 cM_at0 rfl 0 (by decide) k7 (fun _ h9 => h9) rfl dX5_no_1 ?_
  refine lv_iload_n hx hb dX5_no_4 rfl (lv_at hl 1 rfl) ?_
  refine lv_ineg hx hb dX5_no_5 ?_
  refine lv_dup2_11 hx hb dX5_no_6 rfl rfl ?_
  obtain ⟨c_1, hf⟩ := gi_e hf
  refine va_iald hx hb hK hP 1 0 cM_at1 rfl c_1 dX5_no_7 ?_
  refine lv_iconst (v := 1) hx hb dX5_no_8 (by decide) ?_
  refine lv_iadd hx hb dX5_no_9 ?_
  obtain ⟨c_2, hf⟩ := gi_e hf
  refine va_iast hx hb hK hP hD hS 1 0 cM_at1 rfl c_2 dX5_no_10 (fun H locs hP hD hS => ?_)
  obtain ⟨h_3, eh_3, hf⟩ := nq_e hf
  rw [cM_su1, ← eh_3] at hP hD
  refine lv_iload_n hx hb dX5_no_11 rfl (lv_at hl 1 rfl) ?_
  exact hend (p1, h_3) H locs _ _ hf hP hS dX5_no_12

def rm_X5_lower : Room := { frames := 0, cells := 0, slots := 0, locals := 0 }
theorem hd_X5_lower : yX5_lower.cls = RX5 ∧ yX5_lower.cls ≠ "java/lang/invoke/MethodHandle" ∧ yX5_lower.cls ≠ "java/lang/invoke/VarHandle" ∧ (parseMethodDescriptor yX5_lower.desc).map (fun d => d.parameters.length) = some 1 := by decide +kernel
set_option maxRecDepth 100000 in
set_option maxHeartbeats 4000000 in
theorem c_X5_lower (l : Launch) (D : va_G) (cI : ClassId) (A : Nat → Nat) (M : St) (p1 : Int32) (r : Int32 × St) (hf : f_X5_lower M p1 = some r) : Ct l yX5_lower wsX5_lower rm_X5_lower D cI (cM cI A M) (cM cI A r.2) [.ref (A 0), .int p1] (some (.int r.1)) := by
  unfold f_X5_lower at hf
  refine Ct.ofI (cc := cX5_lower) (maxL := 2) (by decide +kernel) rfl (Nat.le_of_ble_eq_true rfl) ?_
  intro p e s m args below meth c AA Q H locs ls hx hb hml hown hts hA hK hP hD hS hl hend0
  have hend : ∀ (r1 : Int32 × St) (H : Heap) (locs : List Loc) (pc : Nat) (ls : Array Slot), some r1 = some r → va_P D vwCl (cM cI A r1.2) H → va_S AA s.heap H locs → decode cX5_lower pc = .ok (.ireturn, 1) → W p l e rm_X5_lower s m args below meth c H locs 0 0 Q (F0 m pc ls [.int r1.1]) := by
    intro r1 H locs pc ls e1 hP hS hd; cases e1; exact hend0 H locs pc ls hP hS hd
  clear hend0
  have hw5 : ∀ w ∈ wsX50, w ∈ wsX5_lower := by decide +kernel
  have k7 := hts (.fieldLink RX5 7 "AnchorsForConfessionModel" "refused" "[I") (by decide +kernel)
  have kc62 := hts (.constant RX5 62 1000000000) (by decide +kernel)
  replace hl : lv_has ls 2 [(0, .ref (A 0)), (1, .int p1)] := hl
  refine lv_aload_n hx hb dX5_lower_0 rfl (lv_at hl 0 rfl) ?_
  refine va_get (D := D) (ci := 5) (v := .ref (A 1)) (C := RX5) (T := TX5) (N := 27) hx hb hts hw5 hown hK hP 0 cM_at0 rfl 0 (by decide) k7 (fun _ h9 => h9) rfl dX5_lower_1 ?_
  refine lv_iload_n hx hb dX5_lower_4 rfl (lv_at hl 1 rfl) ?_
  refine lv_ineg hx hb dX5_lower_5 ?_
  refine lv_dup2_11 hx hb dX5_lower_6 rfl rfl ?_
  obtain ⟨c_1, hf⟩ := gi_e hf
  refine va_iald hx hb hK hP 1 0 cM_at1 rfl c_1 dX5_lower_7 ?_
  refine lv_iconst (v := 1) hx hb dX5_lower_8 (by decide) ?_
  refine lv_iadd hx hb dX5_lower_9 ?_
  obtain ⟨c_2, hf⟩ := gi_e hf
  refine va_iast hx hb hK hP hD hS 1 0 cM_at1 rfl c_2 dX5_lower_10 (fun H locs hP hD hS => ?_)
  obtain ⟨h_3, eh_3, hf⟩ := nq_e hf
  rw [cM_su1, ← eh_3] at hP hD
  refine lv_ldc (v := 1000000000) hx hb hown kc62 dX5_lower_11 ?_
  refine lv_iload_n hx hb dX5_lower_13 rfl (lv_at hl 1 rfl) ?_
  refine lv_isub hx hb dX5_lower_14 ?_
  exact hend (((1000000000 : Int32) - p1), h_3) H locs _ _ hf hP hS dX5_lower_15

def rm_X5_lowestOf : Room := { frames := 0, cells := 0, slots := 0, locals := 0 }
theorem hd_X5_lowestOf : yX5_lowestOf.cls = RX5 ∧ yX5_lowestOf.cls ≠ "java/lang/invoke/MethodHandle" ∧ yX5_lowestOf.cls ≠ "java/lang/invoke/VarHandle" ∧ (parseMethodDescriptor yX5_lowestOf.desc).map (fun d => d.parameters.length) = some 1 := by decide +kernel
set_option maxRecDepth 100000 in
set_option maxHeartbeats 4000000 in
theorem c_X5_lowestOf (l : Launch) (D : va_G) (cI : ClassId) (A : Nat → Nat) (M : St) (p1 : Int32) (r : Int64 × St) (hf : f_X5_lowestOf M p1 = some r) : Ct l yX5_lowestOf wsX5_lowestOf rm_X5_lowestOf D cI (cM cI A M) (cM cI A r.2) [.ref (A 0), .int p1] (some (.long r.1)) := by
  unfold f_X5_lowestOf at hf
  refine Ct.ofL (cc := cX5_lowestOf) (maxL := 2) (by decide +kernel) rfl (Nat.le_of_ble_eq_true rfl) ?_
  intro p e s m args below meth c AA Q H locs ls hx hb hml hown hts hA hK hP hD hS hl hend0
  have hend : ∀ (r1 : Int64 × St) (H : Heap) (locs : List Loc) (pc : Nat) (ls : Array Slot), some r1 = some r → va_P D vwCl (cM cI A r1.2) H → va_S AA s.heap H locs → decode cX5_lowestOf pc = .ok (.lreturn, 1) → W p l e rm_X5_lowestOf s m args below meth c H locs 0 0 Q (F0 m pc ls [.long r1.1]) := by
    intro r1 H locs pc ls e1 hP hS hd; cases e1; exact hend0 H locs pc ls hP hS hd
  clear hend0
  have hw5 : ∀ w ∈ wsX50, w ∈ wsX5_lowestOf := by decide +kernel
  have k7 := hts (.fieldLink RX5 7 "AnchorsForConfessionModel" "refused" "[I") (by decide +kernel)
  have kc63 := hts (.constantLong RX5 63 4000000000000000000) (by decide +kernel)
  replace hl : lv_has ls 2 [(0, .ref (A 0)), (1, .int p1)] := hl
  refine lv_aload_n hx hb dX5_lowestOf_0 rfl (lv_at hl 0 rfl) ?_
  refine va_get (D := D) (ci := 5) (v := .ref (A 1)) (C := RX5) (T := TX5) (N := 27) hx hb hts hw5 hown hK hP 0 cM_at0 rfl 0 (by decide) k7 (fun _ h9 => h9) rfl dX5_lowestOf_1 ?_
  refine lv_iload_n hx hb dX5_lowestOf_4 rfl (lv_at hl 1 rfl) ?_
  refine lv_ineg hx hb dX5_lowestOf_5 ?_
  refine lv_dup2_11 hx hb dX5_lowestOf_6 rfl rfl ?_
  obtain ⟨c_1, hf⟩ := gi_e hf
  refine va_iald hx hb hK hP 1 0 cM_at1 rfl c_1 dX5_lowestOf_7 ?_
  refine lv_iconst (v := 1) hx hb dX5_lowestOf_8 (by decide) ?_
  refine lv_iadd hx hb dX5_lowestOf_9 ?_
  obtain ⟨c_2, hf⟩ := gi_e hf
  refine va_iast hx hb hK hP hD hS 1 0 cM_at1 rfl c_2 dX5_lowestOf_10 (fun H locs hP hD hS => ?_)
  obtain ⟨h_3, eh_3, hf⟩ := nq_e hf
  rw [cM_su1, ← eh_3] at hP hD
  refine lv_ldc2 (v := 4000000000000000000) hx hb hown kc63 dX5_lowestOf_11 ?_
  refine lv_iload_n hx hb dX5_lowestOf_14 rfl (lv_at hl 1 rfl) ?_
  refine lv_i2l (v := (p1).toInt64) hx hb dX5_lowestOf_15 rfl ?_
  refine lv_lsub hx hb dX5_lowestOf_16 ?_
  exact hend (((4000000000000000000 : Int64) - (p1).toInt64), h_3) H locs _ _ hf hP hS dX5_lowestOf_17

def rm_X5_isIn : Room := { frames := 0, cells := 0, slots := 0, locals := 0 }
theorem hd_X5_isIn : yX5_isIn.cls ≠ "java/lang/invoke/MethodHandle" ∧ yX5_isIn.cls ≠ "java/lang/invoke/VarHandle" ∧ (parseMethodDescriptor yX5_isIn.desc).map (fun d => d.parameters.length) = some 3 := by decide +kernel
set_option maxRecDepth 100000 in
set_option maxHeartbeats 4000000 in
theorem c_X5_isIn (l : Launch) (D : va_G) (cI : ClassId) (p1 : Int32) (p2 : Int32) (p3 : Int32) (r : Int32) (hf : f_X5_isIn p1 p2 p3 = some r) : Ct l yX5_isIn wsX5_isIn rm_X5_isIn D cI [] [] [.int p1, .int p2, .int p3] (some (.int r)) := by
  unfold f_X5_isIn at hf
  obtain ⟨hz, hf⟩ := fz_e hf
  refine Ct.ofZ hz (cc := cX5_isIn) (maxL := 3) (by decide +kernel) rfl (Nat.le_of_ble_eq_true rfl) ?_
  intro p e s m args below meth c AA Q H locs ls hx hb hml hown hts hA hK hP hD hS hl hend0
  have hend : ∀ (r1 : Int32) (H : Heap) (locs : List Loc) (pc : Nat) (ls : Array Slot), some r1 = some r → va_P D vwCl [] H → va_S AA s.heap H locs → decode cX5_isIn pc = .ok (.ireturn, 1) → W p l e rm_X5_isIn s m args below meth c H locs 0 0 Q (F0 m pc ls [.int r1]) := by
    intro r1 H locs pc ls e1 hP hS hd; cases e1; exact hend0 H locs pc ls hP hS hd
  clear hend0
  replace hl : lv_has ls 3 [(0, .int p1), (1, .int p2), (2, .int p3)] := hl
  refine lv_iload_n hx hb dX5_isIn_0 rfl (lv_at hl 0 rfl) ?_
  refine lv_iload_n hx hb dX5_isIn_1 rfl (lv_at hl 1 rfl) ?_
  refine lv_icmp_lt (tgt := 14) hx hb dX5_isIn_2 (by decide) (fun c_1 => ?_) (fun c_1 => ?_)
  · replace hf := if_t c_1 hf
    refine lv_iconst (v := 0) hx hb dX5_isIn_14 (by decide) ?_
    exact hend (0 : Int32) H locs _ _ hf hP hS dX5_isIn_15
  · replace hf := if_f c_1 hf
    refine lv_iload_n hx hb dX5_isIn_5 rfl (lv_at hl 0 rfl) ?_
    refine lv_iload_n hx hb dX5_isIn_6 rfl (lv_at hl 2 rfl) ?_
    refine lv_icmp_gt (tgt := 14) hx hb dX5_isIn_7 (by decide) (fun c_2 => ?_) (fun c_2 => ?_)
    · replace hf := if_t c_2 hf
      refine lv_iconst (v := 0) hx hb dX5_isIn_14 (by decide) ?_
      exact hend (0 : Int32) H locs _ _ hf hP hS dX5_isIn_15
    · replace hf := if_f c_2 hf
      refine lv_iconst (v := 1) hx hb dX5_isIn_10 (by decide) ?_
      refine lv_goto (tgt := 15) hx hb dX5_isIn_11 (by decide) ?_
      exact hend (1 : Int32) H locs _ _ hf hP hS dX5_isIn_15

def rm_X5_bound : Room := { frames := 0, cells := 0, slots := 0, locals := 0 }
theorem hd_X5_bound : yX5_bound.cls ≠ "java/lang/invoke/MethodHandle" ∧ yX5_bound.cls ≠ "java/lang/invoke/VarHandle" ∧ (parseMethodDescriptor yX5_bound.desc).map (fun d => d.parameters.length) = some 3 := by decide +kernel
set_option maxRecDepth 100000 in
set_option maxHeartbeats 4000000 in
theorem c_X5_bound (l : Launch) (D : va_G) (cI : ClassId) (p1 : Int32) (p2 : Int32) (p3 : Int32) (r : Int32) (hf : f_X5_bound p1 p2 p3 = some r) : Ct l yX5_bound wsX5_bound rm_X5_bound D cI [] [] [.int p1, .int p2, .int p3] (some (.int r)) := by
  unfold f_X5_bound at hf
  refine Ct.ofI (cc := cX5_bound) (maxL := 3) (by decide +kernel) rfl (Nat.le_of_ble_eq_true rfl) ?_
  intro p e s m args below meth c AA Q H locs ls hx hb hml hown hts hA hK hP hD hS hl hend0
  have hend : ∀ (r1 : Int32) (H : Heap) (locs : List Loc) (pc : Nat) (ls : Array Slot), some r1 = some r → va_P D vwCl [] H → va_S AA s.heap H locs → decode cX5_bound pc = .ok (.ireturn, 1) → W p l e rm_X5_bound s m args below meth c H locs 0 0 Q (F0 m pc ls [.int r1]) := by
    intro r1 H locs pc ls e1 hP hS hd; cases e1; exact hend0 H locs pc ls hP hS hd
  clear hend0
  replace hl : lv_has ls 3 [(0, .int p1), (1, .int p2), (2, .int p3)] := hl
  refine lv_iload_n hx hb dX5_bound_0 rfl (lv_at hl 0 rfl) ?_
  refine lv_iload_n hx hb dX5_bound_1 rfl (lv_at hl 1 rfl) ?_
  refine lv_icmp_ge (tgt := 10) hx hb dX5_bound_2 (by decide) (fun c_1 => ?_) (fun c_1 => ?_)
  · replace hf := if_t c_1 hf
    refine lv_iload_n hx hb dX5_bound_10 rfl (lv_at hl 0 rfl) ?_
    refine lv_iload_n hx hb dX5_bound_11 rfl (lv_at hl 2 rfl) ?_
    refine lv_icmp_le (tgt := 20) hx hb dX5_bound_12 (by decide) (fun c_2 => ?_) (fun c_2 => ?_)
    · replace hf := if_t c_2 hf
      refine lv_iconst (v := 0) hx hb dX5_bound_20 (by decide) ?_
      exact hend (0 : Int32) H locs _ _ hf hP hS dX5_bound_21
    · replace hf := if_f c_2 hf
      refine lv_bipush (v := -6) hx hb dX5_bound_15 (by decide +kernel) ?_
      refine lv_goto (tgt := 21) hx hb dX5_bound_17 (by decide) ?_
      exact hend (-6 : Int32) H locs _ _ hf hP hS dX5_bound_21
  · replace hf := if_f c_1 hf
    refine lv_bipush (v := -4) hx hb dX5_bound_5 (by decide +kernel) ?_
    refine lv_goto (tgt := 21) hx hb dX5_bound_7 (by decide) ?_
    exact hend (-4 : Int32) H locs _ _ hf hP hS dX5_bound_21

def rm_X5_held : Room := { frames := 0, cells := 0, slots := 0, locals := 0 }
theorem hd_X5_held : yX5_held.cls ≠ "java/lang/invoke/MethodHandle" ∧ yX5_held.cls ≠ "java/lang/invoke/VarHandle" ∧ (parseMethodDescriptor yX5_held.desc).map (fun d => d.parameters.length) = some 3 := by decide +kernel
set_option maxRecDepth 100000 in
set_option maxHeartbeats 4000000 in
theorem c_X5_held (l : Launch) (D : va_G) (cI : ClassId) (p1 : Int32) (p2 : Int32) (p3 : Int32) (r : Int32) (hf : f_X5_held p1 p2 p3 = some r) : Ct l yX5_held wsX5_held rm_X5_held D cI [] [] [.int p1, .int p2, .int p3] (some (.int r)) := by
  unfold f_X5_held at hf
  refine Ct.ofI (cc := cX5_held) (maxL := 3) (by decide +kernel) rfl (Nat.le_of_ble_eq_true rfl) ?_
  intro p e s m args below meth c AA Q H locs ls hx hb hml hown hts hA hK hP hD hS hl hend0
  have hend : ∀ (r1 : Int32) (H : Heap) (locs : List Loc) (pc : Nat) (ls : Array Slot), some r1 = some r → va_P D vwCl [] H → va_S AA s.heap H locs → decode cX5_held pc = .ok (.ireturn, 1) → W p l e rm_X5_held s m args below meth c H locs 0 0 Q (F0 m pc ls [.int r1]) := by
    intro r1 H locs pc ls e1 hP hS hd; cases e1; exact hend0 H locs pc ls hP hS hd
  clear hend0
  replace hl : lv_has ls 3 [(0, .int p1), (1, .int p2), (2, .int p3)] := hl
  refine lv_iload_n hx hb dX5_held_0 rfl (lv_at hl 0 rfl) ?_
  refine lv_iload_n hx hb dX5_held_1 rfl (lv_at hl 1 rfl) ?_
  refine lv_icmp_ge (tgt := 9) hx hb dX5_held_2 (by decide) (fun c_1 => ?_) (fun c_1 => ?_)
  · replace hf := if_t c_1 hf
    refine lv_iload_n hx hb dX5_held_9 rfl (lv_at hl 0 rfl) ?_
    refine lv_iload_n hx hb dX5_held_10 rfl (lv_at hl 2 rfl) ?_
    refine lv_icmp_le (tgt := 18) hx hb dX5_held_11 (by decide) (fun c_2 => ?_) (fun c_2 => ?_)
    · replace hf := if_t c_2 hf
      refine lv_iload_n hx hb dX5_held_18 rfl (lv_at hl 0 rfl) ?_
      exact hend p1 H locs _ _ hf hP hS dX5_held_19
    · replace hf := if_f c_2 hf
      refine lv_iload_n hx hb dX5_held_14 rfl (lv_at hl 2 rfl) ?_
      refine lv_goto (tgt := 19) hx hb dX5_held_15 (by decide) ?_
      exact hend p3 H locs _ _ hf hP hS dX5_held_19
  · replace hf := if_f c_1 hf
    refine lv_iload_n hx hb dX5_held_5 rfl (lv_at hl 1 rfl) ?_
    refine lv_goto (tgt := 19) hx hb dX5_held_6 (by decide) ?_
    exact hend p2 H locs _ _ hf hP hS dX5_held_19

def rm_X5_has : Room := { frames := 0, cells := 0, slots := 0, locals := 0 }
theorem hd_X5_has : yX5_has.cls ≠ "java/lang/invoke/MethodHandle" ∧ yX5_has.cls ≠ "java/lang/invoke/VarHandle" ∧ (parseMethodDescriptor yX5_has.desc).map (fun d => d.parameters.length) = some 2 := by decide +kernel
set_option maxRecDepth 100000 in
set_option maxHeartbeats 4000000 in
theorem c_X5_has (l : Launch) (D : va_G) (cI : ClassId) (p1 : Int32) (p2 : Int32) (r : Int32) (hf : f_X5_has p1 p2 = some r) : Ct l yX5_has wsX5_has rm_X5_has D cI [] [] [.int p1, .int p2] (some (.int r)) := by
  unfold f_X5_has at hf
  obtain ⟨hz, hf⟩ := fz_e hf
  refine Ct.ofZ hz (cc := cX5_has) (maxL := 2) (by decide +kernel) rfl (Nat.le_of_ble_eq_true rfl) ?_
  intro p e s m args below meth c AA Q H locs ls hx hb hml hown hts hA hK hP hD hS hl hend0
  have hend : ∀ (r1 : Int32) (H : Heap) (locs : List Loc) (pc : Nat) (ls : Array Slot), some r1 = some r → va_P D vwCl [] H → va_S AA s.heap H locs → decode cX5_has pc = .ok (.ireturn, 1) → W p l e rm_X5_has s m args below meth c H locs 0 0 Q (F0 m pc ls [.int r1]) := by
    intro r1 H locs pc ls e1 hP hS hd; cases e1; exact hend0 H locs pc ls hP hS hd
  clear hend0
  replace hl : lv_has ls 2 [(0, .int p1), (1, .int p2)] := hl
  refine lv_iload_n hx hb dX5_has_0 rfl (lv_at hl 0 rfl) ?_
  refine lv_iload_n hx hb dX5_has_1 rfl (lv_at hl 1 rfl) ?_
  refine lv_ishr hx hb dX5_has_2 ?_
  refine lv_iconst (v := 1) hx hb dX5_has_3 (by decide) ?_
  refine lv_iand hx hb dX5_has_4 ?_
  refine lv_iconst (v := 1) hx hb dX5_has_5 (by decide) ?_
  refine lv_icmp_ne (tgt := 13) hx hb dX5_has_6 (by decide) (fun c_1 => ?_) (fun c_1 => ?_)
  · replace hf := if_f c_1 hf
    refine lv_iconst (v := 0) hx hb dX5_has_13 (by decide) ?_
    exact hend (0 : Int32) H locs _ _ hf hP hS dX5_has_14
  · replace hf := if_t c_1 hf
    refine lv_iconst (v := 1) hx hb dX5_has_9 (by decide) ?_
    refine lv_goto (tgt := 14) hx hb dX5_has_10 (by decide) ?_
    exact hend (1 : Int32) H locs _ _ hf hP hS dX5_has_14

def rm_X5_bits : Room := { frames := 0, cells := 0, slots := 0, locals := 0 }
theorem hd_X5_bits : yX5_bits.cls ≠ "java/lang/invoke/MethodHandle" ∧ yX5_bits.cls ≠ "java/lang/invoke/VarHandle" ∧ (parseMethodDescriptor yX5_bits.desc).map (fun d => d.parameters.length) = some 1 := by decide +kernel
set_option maxRecDepth 100000 in
set_option maxHeartbeats 4000000 in
theorem c_X5_bits (l : Launch) (D : va_G) (cI : ClassId) (p1 : Int32) (r : Int32) (hf : f_X5_bits p1 = some r) : Ct l yX5_bits wsX5_bits rm_X5_bits D cI [] [] [.int p1] (some (.int r)) := by
  unfold f_X5_bits at hf
  refine Ct.ofI (cc := cX5_bits) (maxL := 3) (by decide +kernel) rfl (Nat.le_of_ble_eq_true rfl) ?_
  intro p e s m args below meth c AA Q H locs ls hx hb hml hown hts hA hK hP hD hS hl hend0
  have hend : ∀ (r1 : Int32) (H : Heap) (locs : List Loc) (pc : Nat) (ls : Array Slot), some r1 = some r → va_P D vwCl [] H → va_S AA s.heap H locs → decode cX5_bits pc = .ok (.ireturn, 1) → W p l e rm_X5_bits s m args below meth c H locs 0 0 Q (F0 m pc ls [.int r1]) := by
    intro r1 H locs pc ls e1 hP hS hd; cases e1; exact hend0 H locs pc ls hP hS hd
  clear hend0
  replace hl : lv_has ls 3 [(0, .int p1)] := hl
  refine lv_iconst (v := 0) hx hb dX5_bits_0 (by decide) ?_
  refine lv_istore_n (lv' := [(1, .int (0 : Int32)), (0, .int p1)]) hx hb dX5_bits_1 rfl hl (by decide) rfl (fun ls hl => ?_)
  refine lv_iconst (v := 0) hx hb dX5_bits_2 (by decide) ?_
  refine lv_istore_n (lv' := [(2, .int (0 : Int32)), (1, .int (0 : Int32)), (0, .int p1)]) hx hb dX5_bits_3 rfl hl (by decide) rfl (fun ls hl => ?_)
  refine lp_ind (P := fun (q4 : Int32 × Int32) => ∀ (H : Heap) (locs : List Loc) (ls : Array Slot), va_P D vwCl [] H → va_D AA [] → va_S AA s.heap H locs → lv_has ls 3 [(0, .int p1), (1, .int q4.1), (2, .int q4.2)] → W p l e rm_X5_bits s m args below meth c H locs 0 0 Q (F0 m 4 ls [])) hf ?_ H locs ls hP hD hS (lv_sub hl [2, 1, 0] rfl)
  clear hf hP hD hS hl
  intro nx4 ih4 q4 hf H locs ls hP hD hS hl
  refine lv_iload_n hx hb dX5_bits_4 rfl (lv_at hl 2 rfl) ?_
  refine lv_bipush (v := 31) hx hb dX5_bits_5 (by decide +kernel) ?_
  refine lv_icmp_ge (tgt := 24) hx hb dX5_bits_7 (by decide) (fun c_1 => ?_) (fun c_1 => ?_)
  · replace hf := if_t c_1 hf
    refine lv_iload_n hx hb dX5_bits_24 rfl (lv_at hl 1 rfl) ?_
    exact hend q4.1 H locs _ _ hf hP hS dX5_bits_25
  · replace hf := if_f c_1 hf
    refine lv_iload_n hx hb dX5_bits_10 rfl (lv_at hl 1 rfl) ?_
    refine lv_iload_n hx hb dX5_bits_11 rfl (lv_at hl 0 rfl) ?_
    refine lv_iload_n hx hb dX5_bits_12 rfl (lv_at hl 2 rfl) ?_
    refine lv_ishr hx hb dX5_bits_13 ?_
    refine lv_iconst (v := 1) hx hb dX5_bits_14 (by decide) ?_
    refine lv_iand hx hb dX5_bits_15 ?_
    refine lv_iadd hx hb dX5_bits_16 ?_
    refine lv_topi (fun v_2 ev_2 => ?_)
    replace hf := nm_at ev_2 hf
    refine lv_istore_n (lv' := [(1, .int v_2), (0, .int p1), (2, .int q4.2)]) hx hb dX5_bits_17 rfl hl (by decide) rfl (fun ls hl => ?_)
    obtain ⟨v_3, ev_3, hf⟩ := nq_e hf
    refine lv_iinc (v := v_3) (lv' := [(2, .int v_3), (1, .int v_2), (0, .int p1)]) hx hb dX5_bits_18 hl (k := 2) rfl (by rw [ev_3]; rfl) (by decide) rfl (fun ls hl => ?_)
    refine lv_goto (tgt := 4) hx hb dX5_bits_21 (by decide) ?_
    exact ih4 (v_2, v_3) hf H locs ls hP hD hS (lv_sub hl [2, 1, 0] rfl)

def rm_X5_isShip : Room := { frames := 0, cells := 0, slots := 0, locals := 0 }
theorem hd_X5_isShip : yX5_isShip.cls = RX5 ∧ yX5_isShip.cls ≠ "java/lang/invoke/MethodHandle" ∧ yX5_isShip.cls ≠ "java/lang/invoke/VarHandle" ∧ (parseMethodDescriptor yX5_isShip.desc).map (fun d => d.parameters.length) = some 1 := by decide +kernel
set_option maxRecDepth 100000 in
set_option maxHeartbeats 4000000 in
theorem c_X5_isShip (l : Launch) (D : va_G) (cI : ClassId) (A : Nat → Nat) (M : St) (p1 : Int32) (r : Int32) (hf : f_X5_isShip M p1 = some r) : Ct l yX5_isShip wsX5_isShip rm_X5_isShip D cI (cM cI A M) (cM cI A M) [.ref (A 0), .int p1] (some (.int r)) := by
  unfold f_X5_isShip at hf
  obtain ⟨hz, hf⟩ := fz_e hf
  refine Ct.ofZ hz (cc := cX5_isShip) (maxL := 2) (by decide +kernel) rfl (Nat.le_of_ble_eq_true rfl) ?_
  intro p e s m args below meth c AA Q H locs ls hx hb hml hown hts hA hK hP hD hS hl hend0
  have hend : ∀ (r1 : Int32) (H : Heap) (locs : List Loc) (pc : Nat) (ls : Array Slot), some r1 = some r → va_P D vwCl (cM cI A M) H → va_S AA s.heap H locs → decode cX5_isShip pc = .ok (.ireturn, 1) → W p l e rm_X5_isShip s m args below meth c H locs 0 0 Q (F0 m pc ls [.int r1]) := by
    intro r1 H locs pc ls e1 hP hS hd; cases e1; exact hend0 H locs pc ls hP hS hd
  clear hend0
  have hw5 : ∀ w ∈ wsX50, w ∈ wsX5_isShip := by decide +kernel
  have k58 := hts (.fieldLink RX5 58 "AnchorsForConfessionModel" "ships" "I") (by decide +kernel)
  replace hl : lv_has ls 2 [(0, .ref (A 0)), (1, .int p1)] := hl
  refine lv_iload_n hx hb dX5_isShip_0 rfl (lv_at hl 1 rfl) ?_
  refine lv_if_lt (tgt := 16) hx hb dX5_isShip_1 (by decide) (fun c_1 => ?_) (fun c_1 => ?_)
  · replace hf := if_t c_1 hf
    refine lv_iconst (v := 0) hx hb dX5_isShip_16 (by decide) ?_
    exact hend (0 : Int32) H locs _ _ hf hP hS dX5_isShip_17
  · replace hf := if_f c_1 hf
    refine lv_iload_n hx hb dX5_isShip_4 rfl (lv_at hl 1 rfl) ?_
    refine lv_aload_n hx hb dX5_isShip_5 rfl (lv_at hl 0 rfl) ?_
    refine va_get (D := D) (ci := 5) (v := .int (M 16 0)) (C := RX5) (T := TX5) (N := 27) hx hb hts hw5 hown hK hP 0 cM_at0 rfl 8 (by decide) k58 (fun _ h9 => h9) rfl dX5_isShip_6 ?_
    refine lv_icmp_ge (tgt := 16) hx hb dX5_isShip_9 (by decide) (fun c_2 => ?_) (fun c_2 => ?_)
    · replace hf := if_t c_2 hf
      refine lv_iconst (v := 0) hx hb dX5_isShip_16 (by decide) ?_
      exact hend (0 : Int32) H locs _ _ hf hP hS dX5_isShip_17
    · replace hf := if_f c_2 hf
      refine lv_iconst (v := 1) hx hb dX5_isShip_12 (by decide) ?_
      refine lv_goto (tgt := 17) hx hb dX5_isShip_13 (by decide) ?_
      exact hend (1 : Int32) H locs _ _ hf hP hS dX5_isShip_17

def rm_X5_isMan : Room := { frames := 0, cells := 0, slots := 0, locals := 0 }
theorem hd_X5_isMan : yX5_isMan.cls = RX5 ∧ yX5_isMan.cls ≠ "java/lang/invoke/MethodHandle" ∧ yX5_isMan.cls ≠ "java/lang/invoke/VarHandle" ∧ (parseMethodDescriptor yX5_isMan.desc).map (fun d => d.parameters.length) = some 1 := by decide +kernel
set_option maxRecDepth 100000 in
set_option maxHeartbeats 4000000 in
theorem c_X5_isMan (l : Launch) (D : va_G) (cI : ClassId) (A : Nat → Nat) (M : St) (p1 : Int32) (r : Int32) (hf : f_X5_isMan M p1 = some r) : Ct l yX5_isMan wsX5_isMan rm_X5_isMan D cI (cM cI A M) (cM cI A M) [.ref (A 0), .int p1] (some (.int r)) := by
  unfold f_X5_isMan at hf
  obtain ⟨hz, hf⟩ := fz_e hf
  refine Ct.ofZ hz (cc := cX5_isMan) (maxL := 2) (by decide +kernel) rfl (Nat.le_of_ble_eq_true rfl) ?_
  intro p e s m args below meth c AA Q H locs ls hx hb hml hown hts hA hK hP hD hS hl hend0
  have hend : ∀ (r1 : Int32) (H : Heap) (locs : List Loc) (pc : Nat) (ls : Array Slot), some r1 = some r → va_P D vwCl (cM cI A M) H → va_S AA s.heap H locs → decode cX5_isMan pc = .ok (.ireturn, 1) → W p l e rm_X5_isMan s m args below meth c H locs 0 0 Q (F0 m pc ls [.int r1]) := by
    intro r1 H locs pc ls e1 hP hS hd; cases e1; exact hend0 H locs pc ls hP hS hd
  clear hend0
  have hw5 : ∀ w ∈ wsX50, w ∈ wsX5_isMan := by decide +kernel
  have k65 := hts (.fieldLink RX5 65 "AnchorsForConfessionModel" "men" "I") (by decide +kernel)
  replace hl : lv_has ls 2 [(0, .ref (A 0)), (1, .int p1)] := hl
  refine lv_iload_n hx hb dX5_isMan_0 rfl (lv_at hl 1 rfl) ?_
  refine lv_if_lt (tgt := 16) hx hb dX5_isMan_1 (by decide) (fun c_1 => ?_) (fun c_1 => ?_)
  · replace hf := if_t c_1 hf
    refine lv_iconst (v := 0) hx hb dX5_isMan_16 (by decide) ?_
    exact hend (0 : Int32) H locs _ _ hf hP hS dX5_isMan_17
  · replace hf := if_f c_1 hf
    refine lv_iload_n hx hb dX5_isMan_4 rfl (lv_at hl 1 rfl) ?_
    refine lv_aload_n hx hb dX5_isMan_5 rfl (lv_at hl 0 rfl) ?_
    refine va_get (D := D) (ci := 5) (v := .int (M 16 1)) (C := RX5) (T := TX5) (N := 27) hx hb hts hw5 hown hK hP 0 cM_at0 rfl 9 (by decide) k65 (fun _ h9 => h9) rfl dX5_isMan_6 ?_
    refine lv_icmp_ge (tgt := 16) hx hb dX5_isMan_9 (by decide) (fun c_2 => ?_) (fun c_2 => ?_)
    · replace hf := if_t c_2 hf
      refine lv_iconst (v := 0) hx hb dX5_isMan_16 (by decide) ?_
      exact hend (0 : Int32) H locs _ _ hf hP hS dX5_isMan_17
    · replace hf := if_f c_2 hf
      refine lv_iconst (v := 1) hx hb dX5_isMan_12 (by decide) ?_
      refine lv_goto (tgt := 17) hx hb dX5_isMan_13 (by decide) ?_
      exact hend (1 : Int32) H locs _ _ hf hP hS dX5_isMan_17

def rm_X5_letter : Room := { frames := 1, cells := 0, slots := 0, locals := 22 }
theorem hd_X5_letter : yX5_letter.cls = RX5 ∧ yX5_letter.cls ≠ "java/lang/invoke/MethodHandle" ∧ yX5_letter.cls ≠ "java/lang/invoke/VarHandle" ∧ (parseMethodDescriptor yX5_letter.desc).map (fun d => d.parameters.length) = some 1 := by decide +kernel
set_option maxRecDepth 100000 in
set_option maxHeartbeats 4000000 in
theorem c_X5_letter (l : Launch) (D : va_G) (cI : ClassId) (A : Nat → Nat) (M : St) (p1 : Int32) (r : Int32 × St) (hf : f_X5_letter M p1 = some r) : Ct l yX5_letter wsX5_letter rm_X5_letter D cI (cM cI A M) (cM cI A r.2) [.ref (A 0), .int p1] (some (.int r.1)) := by
  unfold f_X5_letter at hf
  refine Ct.ofI (cc := cX5_letter) (maxL := 3) (by decide +kernel) rfl (Nat.le_of_ble_eq_true rfl) ?_
  intro p e s m args below meth c AA Q H locs ls hx hb hml hown hts hA hK hP hD hS hl hend0
  have hend : ∀ (r1 : Int32 × St) (H : Heap) (locs : List Loc) (pc : Nat) (ls : Array Slot), some r1 = some r → va_P D vwCl (cM cI A r1.2) H → va_S AA s.heap H locs → decode cX5_letter pc = .ok (.ireturn, 1) → W p l e rm_X5_letter s m args below meth c H locs 0 0 Q (F0 m pc ls [.int r1.1]) := by
    intro r1 H locs pc ls e1 hP hS hd; cases e1; exact hend0 H locs pc ls hP hS hd
  clear hend0
  have hw5 : ∀ w ∈ wsX50, w ∈ wsX5_letter := by decide +kernel
  have k34 := hts (.fieldLink RX5 34 "AnchorsForConfessionModel" "tape" "[I") (by decide +kernel)
  have k72 := hts (.fieldLink RX5 72 "AnchorsForConfessionModel" "taped" "I") (by decide +kernel)
  replace hl : lv_has ls 3 [(0, .ref (A 0)), (1, .int p1)] := hl
  refine lv_iload_n hx hb dX5_letter_0 rfl (lv_at hl 1 rfl) ?_
  refine lv_iconst (v := 0) hx hb dX5_letter_1 (by decide) ?_
  refine lv_sipush (v := 255) hx hb dX5_letter_2 (by decide +kernel) ?_
  obtain ⟨a_1, ha_1, hf⟩ := bd_e hf
  refine Ct.callS (As := [.int p1, .int (0 : Int32), .int (255 : Int32)]) (rest := []) (st1 := [.int a_1]) (c_X5_bound l D cI  p1 (0 : Int32) (255 : Int32) a_1 ha_1) hx hb hml hown hts (va_cwS 3 hts gX5_letter_X5_bound rfl rfl rfl hd_X5_bound ⟨Nat.le_of_ble_eq_true rfl, Nat.le_of_ble_eq_true rfl⟩) Ln.nil hA hK hP hD hS rfl hl.1 rfl rfl (Nat.le_of_ble_eq_true rfl) dX5_letter_5 (fun H locs hP hD hS => ?_)
  refine lv_istore_n (lv' := [(2, .int a_1), (0, .ref (A 0)), (1, .int p1)]) hx hb dX5_letter_8 rfl hl (by decide) rfl (fun ls hl => ?_)
  refine lv_iload_n hx hb dX5_letter_9 rfl (lv_at hl 0 rfl) ?_
  refine lv_if_ne (tgt := 25) hx hb dX5_letter_10 (by decide) (fun c_2 => ?_) (fun c_2 => ?_)
  · replace hf := if_f c_2 hf
    refine lv_iload_n hx hb dX5_letter_25 rfl (lv_at hl 0 rfl) ?_
    refine lv_if_eq (tgt := 35) hx hb dX5_letter_26 (by decide) (fun c_3 => ?_) (fun c_3 => ?_)
    · replace hf := if_t c_3 hf
      refine lv_aload_n hx hb dX5_letter_35 rfl (lv_at hl 1 rfl) ?_
      refine va_get (D := D) (ci := 5) (v := .ref (A 9)) (C := RX5) (T := TX5) (N := 27) hx hb hts hw5 hown hK hP 0 cM_at0 rfl 12 (by decide) k34 (fun _ h9 => h9) rfl dX5_letter_36 ?_
      refine lv_aload_n hx hb dX5_letter_39 rfl (lv_at hl 1 rfl) ?_
      refine va_get (D := D) (ci := 5) (v := .int (M 16 4)) (C := RX5) (T := TX5) (N := 27) hx hb hts hw5 hown hK hP 0 cM_at0 rfl 16 (by decide) k72 (fun _ h9 => h9) rfl dX5_letter_40 ?_
      refine lv_iload_n hx hb dX5_letter_43 rfl (lv_at hl 2 rfl) ?_
      obtain ⟨c_4, hf⟩ := gi_e hf
      refine va_iast hx hb hK hP hD hS 9 0 cM_at9 rfl c_4 dX5_letter_44 (fun H locs hP hD hS => ?_)
      obtain ⟨h_5, eh_5, hf⟩ := nq_e hf
      rw [cM_su9, ← eh_5] at hP hD
      refine lv_aload_n hx hb dX5_letter_45 rfl (lv_at hl 1 rfl) ?_
      refine lv_dup hx hb dX5_letter_46 rfl ?_
      refine va_get (D := D) (ci := 5) (v := .int (h_5 16 4)) (C := RX5) (T := TX5) (N := 27) hx hb hts hw5 hown hK hP 0 cM_at0 rfl 16 (by decide) k72 (fun _ h9 => h9) rfl dX5_letter_47 ?_
      refine lv_iconst (v := 1) hx hb dX5_letter_50 (by decide) ?_
      refine lv_iadd hx hb dX5_letter_51 ?_
      refine va_put (D := D) (ci := 5) (v := .int ((h_5 16 4) + (1 : Int32))) (ty := .int) (C := RX5) (T := TX5) (N := 27) hx hb hts hw5 tyX5 tyX5_ok nmX5 hown hK hP hD hS 0 cM_at0 rfl 16 (by decide) k72 (fun _ h9 => h9) rfl (tyX5_ok 16 (by decide)) rfl rfl (Nat.le_of_ble_eq_true rfl) dX5_letter_52 (fun H locs hP hD hS => ?_)
      obtain ⟨h_6, eh_6, hf⟩ := nq_e hf
      rw [cM_sc0_16, ← eh_6] at hP hD
      refine lv_aload_n hx hb dX5_letter_55 rfl (lv_at hl 1 rfl) ?_
      refine va_get (D := D) (ci := 5) (v := .int (h_6 16 4)) (C := RX5) (T := TX5) (N := 27) hx hb hts hw5 hown hK hP 0 cM_at0 rfl 16 (by decide) k72 (fun _ h9 => h9) rfl dX5_letter_56 ?_
      exact hend ((h_6 16 4), h_6) H locs _ _ hf hP hS dX5_letter_59
    · replace hf := if_f c_3 hf
      refine lv_aload_n hx hb dX5_letter_29 rfl (lv_at hl 1 rfl) ?_
      refine lv_iload_n hx hb dX5_letter_30 rfl (lv_at hl 0 rfl) ?_
      obtain ⟨a_7, ha_7, hf⟩ := bd_e hf
      refine Ct.callV (As := [.int a_1]) (rest := []) (st1 := [.int a_7.1]) (c_X5_no l D cI A M a_1 a_7 ha_7) hx hb hml hown hts (cwV 1 hts gX5_letter_X5_no rfl rfl rfl hd_X5_no ⟨Nat.le_of_ble_eq_true rfl, Nat.le_of_ble_eq_true rfl⟩) (va_recv hK hP (ci := 5) (q0 := 0) rfl cM_at0) (Ln.id rfl) hA hK hP hD hS rfl hl.1 rfl rfl (Nat.le_of_ble_eq_true rfl) dX5_letter_31 (fun H locs hP hD hS => ?_)
      replace hP : va_P D vwCl (cM cI A a_7.2) H := hP
      replace hD : va_D AA (cM cI A a_7.2) := hD
      exact hend (a_7.1, a_7.2) H locs _ _ hf hP hS dX5_letter_34
  · replace hf := if_t c_2 hf
    refine lv_aload_n hx hb dX5_letter_13 rfl (lv_at hl 1 rfl) ?_
    refine va_get (D := D) (ci := 5) (v := .int (M 16 4)) (C := RX5) (T := TX5) (N := 27) hx hb hts hw5 hown hK hP 0 cM_at0 rfl 16 (by decide) k72 (fun _ h9 => h9) rfl dX5_letter_14 ?_
    refine lv_bipush (v := 96) hx hb dX5_letter_17 (by decide +kernel) ?_
    refine lv_icmp_ne (tgt := 25) hx hb dX5_letter_19 (by decide) (fun c_8 => ?_) (fun c_8 => ?_)
    · replace hf := if_f c_8 hf
      refine lv_iload_n hx hb dX5_letter_25 rfl (lv_at hl 0 rfl) ?_
      refine lv_if_eq (tgt := 35) hx hb dX5_letter_26 (by decide) (fun c_9 => ?_) (fun c_9 => ?_)
      · replace hf := if_t c_9 hf
        refine lv_aload_n hx hb dX5_letter_35 rfl (lv_at hl 1 rfl) ?_
        refine va_get (D := D) (ci := 5) (v := .ref (A 9)) (C := RX5) (T := TX5) (N := 27) hx hb hts hw5 hown hK hP 0 cM_at0 rfl 12 (by decide) k34 (fun _ h9 => h9) rfl dX5_letter_36 ?_
        refine lv_aload_n hx hb dX5_letter_39 rfl (lv_at hl 1 rfl) ?_
        refine va_get (D := D) (ci := 5) (v := .int (M 16 4)) (C := RX5) (T := TX5) (N := 27) hx hb hts hw5 hown hK hP 0 cM_at0 rfl 16 (by decide) k72 (fun _ h9 => h9) rfl dX5_letter_40 ?_
        refine lv_iload_n hx hb dX5_letter_43 rfl (lv_at hl 2 rfl) ?_
        obtain ⟨c_10, hf⟩ := gi_e hf
        refine va_iast hx hb hK hP hD hS 9 0 cM_at9 rfl c_10 dX5_letter_44 (fun H locs hP hD hS => ?_)
        obtain ⟨h_11, eh_11, hf⟩ := nq_e hf
        rw [cM_su9, ← eh_11] at hP hD
        refine lv_aload_n hx hb dX5_letter_45 rfl (lv_at hl 1 rfl) ?_
        refine lv_dup hx hb dX5_letter_46 rfl ?_
        refine va_get (D := D) (ci := 5) (v := .int (h_11 16 4)) (C := RX5) (T := TX5) (N := 27) hx hb hts hw5 hown hK hP 0 cM_at0 rfl 16 (by decide) k72 (fun _ h9 => h9) rfl dX5_letter_47 ?_
        refine lv_iconst (v := 1) hx hb dX5_letter_50 (by decide) ?_
        refine lv_iadd hx hb dX5_letter_51 ?_
        refine va_put (D := D) (ci := 5) (v := .int ((h_11 16 4) + (1 : Int32))) (ty := .int) (C := RX5) (T := TX5) (N := 27) hx hb hts hw5 tyX5 tyX5_ok nmX5 hown hK hP hD hS 0 cM_at0 rfl 16 (by decide) k72 (fun _ h9 => h9) rfl (tyX5_ok 16 (by decide)) rfl rfl (Nat.le_of_ble_eq_true rfl) dX5_letter_52 (fun H locs hP hD hS => ?_)
        obtain ⟨h_12, eh_12, hf⟩ := nq_e hf
        rw [cM_sc0_16, ← eh_12] at hP hD
        refine lv_aload_n hx hb dX5_letter_55 rfl (lv_at hl 1 rfl) ?_
        refine va_get (D := D) (ci := 5) (v := .int (h_12 16 4)) (C := RX5) (T := TX5) (N := 27) hx hb hts hw5 hown hK hP 0 cM_at0 rfl 16 (by decide) k72 (fun _ h9 => h9) rfl dX5_letter_56 ?_
        exact hend ((h_12 16 4), h_12) H locs _ _ hf hP hS dX5_letter_59
      · replace hf := if_f c_9 hf
        refine lv_aload_n hx hb dX5_letter_29 rfl (lv_at hl 1 rfl) ?_
        refine lv_iload_n hx hb dX5_letter_30 rfl (lv_at hl 0 rfl) ?_
        obtain ⟨a_13, ha_13, hf⟩ := bd_e hf
        refine Ct.callV (As := [.int a_1]) (rest := []) (st1 := [.int a_13.1]) (c_X5_no l D cI A M a_1 a_13 ha_13) hx hb hml hown hts (cwV 1 hts gX5_letter_X5_no rfl rfl rfl hd_X5_no ⟨Nat.le_of_ble_eq_true rfl, Nat.le_of_ble_eq_true rfl⟩) (va_recv hK hP (ci := 5) (q0 := 0) rfl cM_at0) (Ln.id rfl) hA hK hP hD hS rfl hl.1 rfl rfl (Nat.le_of_ble_eq_true rfl) dX5_letter_31 (fun H locs hP hD hS => ?_)
        replace hP : va_P D vwCl (cM cI A a_13.2) H := hP
        replace hD : va_D AA (cM cI A a_13.2) := hD
        exact hend (a_13.1, a_13.2) H locs _ _ hf hP hS dX5_letter_34
    · replace hf := if_t c_8 hf
      refine lv_bipush (v := -6) hx hb dX5_letter_22 (by decide +kernel) ?_
      refine lv_istore_n (lv' := [(2, .int (-6 : Int32)), (0, .ref (A 0)), (1, .int p1)]) hx hb dX5_letter_24 rfl hl (by decide) rfl (fun ls hl => ?_)
      refine lv_iload_n hx hb dX5_letter_25 rfl (lv_at hl 0 rfl) ?_
      refine lv_if_eq (tgt := 35) hx hb dX5_letter_26 (by decide) (fun c0 => absurd c0 (by decide)) (fun _ => ?_)
      refine lv_aload_n hx hb dX5_letter_29 rfl (lv_at hl 1 rfl) ?_
      refine lv_iload_n hx hb dX5_letter_30 rfl (lv_at hl 0 rfl) ?_
      obtain ⟨a_14, ha_14, hf⟩ := bd_e hf
      refine Ct.callV (As := [.int (-6 : Int32)]) (rest := []) (st1 := [.int a_14.1]) (c_X5_no l D cI A M (-6 : Int32) a_14 ha_14) hx hb hml hown hts (cwV 1 hts gX5_letter_X5_no rfl rfl rfl hd_X5_no ⟨Nat.le_of_ble_eq_true rfl, Nat.le_of_ble_eq_true rfl⟩) (va_recv hK hP (ci := 5) (q0 := 0) rfl cM_at0) (Ln.id rfl) hA hK hP hD hS rfl hl.1 rfl rfl (Nat.le_of_ble_eq_true rfl) dX5_letter_31 (fun H locs hP hD hS => ?_)
      replace hP : va_P D vwCl (cM cI A a_14.2) H := hP
      replace hD : va_D AA (cM cI A a_14.2) := hD
      exact hend (a_14.1, a_14.2) H locs _ _ hf hP hS dX5_letter_34

def rm_X5_next : Room := { frames := 0, cells := 0, slots := 0, locals := 0 }
theorem hd_X5_next : yX5_next.cls = RX5 ∧ yX5_next.cls ≠ "java/lang/invoke/MethodHandle" ∧ yX5_next.cls ≠ "java/lang/invoke/VarHandle" ∧ (parseMethodDescriptor yX5_next.desc).map (fun d => d.parameters.length) = some 0 := by decide +kernel
set_option maxRecDepth 100000 in
set_option maxHeartbeats 4000000 in
theorem c_X5_next (l : Launch) (D : va_G) (cI : ClassId) (A : Nat → Nat) (M : St) (r : Int32) (hf : f_X5_next M = some r) : Ct l yX5_next wsX5_next rm_X5_next D cI (cM cI A M) (cM cI A M) [.ref (A 0)] (some (.int r)) := by
  unfold f_X5_next at hf
  refine Ct.ofI (cc := cX5_next) (maxL := 1) (by decide +kernel) rfl (Nat.le_of_ble_eq_true rfl) ?_
  intro p e s m args below meth c AA Q H locs ls hx hb hml hown hts hA hK hP hD hS hl hend0
  have hend : ∀ (r1 : Int32) (H : Heap) (locs : List Loc) (pc : Nat) (ls : Array Slot), some r1 = some r → va_P D vwCl (cM cI A M) H → va_S AA s.heap H locs → decode cX5_next pc = .ok (.ireturn, 1) → W p l e rm_X5_next s m args below meth c H locs 0 0 Q (F0 m pc ls [.int r1]) := by
    intro r1 H locs pc ls e1 hP hS hd; cases e1; exact hend0 H locs pc ls hP hS hd
  clear hend0
  have hw5 : ∀ w ∈ wsX50, w ∈ wsX5_next := by decide +kernel
  have k34 := hts (.fieldLink RX5 34 "AnchorsForConfessionModel" "tape" "[I") (by decide +kernel)
  have k72 := hts (.fieldLink RX5 72 "AnchorsForConfessionModel" "taped" "I") (by decide +kernel)
  have k79 := hts (.fieldLink RX5 79 "AnchorsForConfessionModel" "at" "I") (by decide +kernel)
  replace hl : lv_has ls 1 [(0, .ref (A 0))] := hl
  refine lv_aload_n hx hb dX5_next_0 rfl (lv_at hl 0 rfl) ?_
  refine va_get (D := D) (ci := 5) (v := .int (M 16 5)) (C := RX5) (T := TX5) (N := 27) hx hb hts hw5 hown hK hP 0 cM_at0 rfl 17 (by decide) k79 (fun _ h9 => h9) rfl dX5_next_1 ?_
  refine lv_aload_n hx hb dX5_next_4 rfl (lv_at hl 0 rfl) ?_
  refine va_get (D := D) (ci := 5) (v := .int (M 16 4)) (C := RX5) (T := TX5) (N := 27) hx hb hts hw5 hown hK hP 0 cM_at0 rfl 16 (by decide) k72 (fun _ h9 => h9) rfl dX5_next_5 ?_
  refine lv_icmp_ge (tgt := 23) hx hb dX5_next_8 (by decide) (fun c_1 => ?_) (fun c_1 => ?_)
  · replace hf := if_t c_1 hf
    refine lv_iconst (v := -1) hx hb dX5_next_23 (by decide) ?_
    exact hend (-1 : Int32) H locs _ _ hf hP hS dX5_next_24
  · replace hf := if_f c_1 hf
    refine lv_aload_n hx hb dX5_next_11 rfl (lv_at hl 0 rfl) ?_
    refine va_get (D := D) (ci := 5) (v := .ref (A 9)) (C := RX5) (T := TX5) (N := 27) hx hb hts hw5 hown hK hP 0 cM_at0 rfl 12 (by decide) k34 (fun _ h9 => h9) rfl dX5_next_12 ?_
    refine lv_aload_n hx hb dX5_next_15 rfl (lv_at hl 0 rfl) ?_
    refine va_get (D := D) (ci := 5) (v := .int (M 16 5)) (C := RX5) (T := TX5) (N := 27) hx hb hts hw5 hown hK hP 0 cM_at0 rfl 17 (by decide) k79 (fun _ h9 => h9) rfl dX5_next_16 ?_
    obtain ⟨c_2, hf⟩ := gi_e hf
    refine va_iald hx hb hK hP 9 0 cM_at9 rfl c_2 dX5_next_19 ?_
    refine lv_goto (tgt := 24) hx hb dX5_next_20 (by decide) ?_
    exact hend (M 8 ((M 16 5)).toNatClampNeg) H locs _ _ hf hP hS dX5_next_24

def rm_X5_readsDigits : Room := { frames := 1, cells := 0, slots := 0, locals := 22 }
theorem hd_X5_readsDigits : yX5_readsDigits.cls = RX5 ∧ yX5_readsDigits.cls ≠ "java/lang/invoke/MethodHandle" ∧ yX5_readsDigits.cls ≠ "java/lang/invoke/VarHandle" ∧ (parseMethodDescriptor yX5_readsDigits.desc).map (fun d => d.parameters.length) = some 2 := by decide +kernel
set_option maxRecDepth 100000 in
set_option maxHeartbeats 4000000 in
theorem c_X5_readsDigits (l : Launch) (D : va_G) (cI : ClassId) (A : Nat → Nat) (M : St) (p1 : Int32) (p2 : Int32) (r : Int32 × St) (hf : f_X5_readsDigits M p1 p2 = some r) : Ct l yX5_readsDigits wsX5_readsDigits rm_X5_readsDigits D cI (cM cI A M) (cM cI A r.2) [.ref (A 0), .int p1, .int p2] (some (.int r.1)) := by
  unfold f_X5_readsDigits at hf
  obtain ⟨hz, hf⟩ := fzp_e hf
  refine Ct.ofZ hz (cc := cX5_readsDigits) (maxL := 5) (by decide +kernel) rfl (Nat.le_of_ble_eq_true rfl) ?_
  intro p e s m args below meth c AA Q H locs ls hx hb hml hown hts hA hK hP hD hS hl hend0
  have hend : ∀ (r1 : Int32 × St) (H : Heap) (locs : List Loc) (pc : Nat) (ls : Array Slot), some r1 = some r → va_P D vwCl (cM cI A r1.2) H → va_S AA s.heap H locs → decode cX5_readsDigits pc = .ok (.ireturn, 1) → W p l e rm_X5_readsDigits s m args below meth c H locs 0 0 Q (F0 m pc ls [.int r1.1]) := by
    intro r1 H locs pc ls e1 hP hS hd; cases e1; exact hend0 H locs pc ls hP hS hd
  clear hend0
  have hw5 : ∀ w ∈ wsX50, w ∈ wsX5_readsDigits := by decide +kernel
  have k43 := hts (.fieldLink RX5 43 "AnchorsForConfessionModel" "told" "[I") (by decide +kernel)
  have k79 := hts (.fieldLink RX5 79 "AnchorsForConfessionModel" "at" "I") (by decide +kernel)
  replace hl : lv_has ls 5 [(0, .ref (A 0)), (1, .int p1), (2, .int p2)] := hl
  refine lv_iconst (v := 0) hx hb dX5_readsDigits_0 (by decide) ?_
  refine lv_istore_n (lv' := [(3, .int (0 : Int32)), (0, .ref (A 0)), (1, .int p1), (2, .int p2)]) hx hb dX5_readsDigits_1 rfl hl (by decide) rfl (fun ls hl => ?_)
  refine lv_iconst (v := 0) hx hb dX5_readsDigits_2 (by decide) ?_
  refine lv_istore (lv' := [(4, .int (0 : Int32)), (3, .int (0 : Int32)), (0, .ref (A 0)), (1, .int p1), (2, .int p2)]) hx hb dX5_readsDigits_3 hl (by decide) rfl (fun ls hl => ?_)
  refine lp_ind (P := fun (q5 : Int32 × Int32 × St) => ∀ (H : Heap) (locs : List Loc) (ls : Array Slot), va_P D vwCl (cM cI A q5.2.2) H → va_D AA (cM cI A q5.2.2) → va_S AA s.heap H locs → lv_has ls 5 [(0, .ref (A 0)), (1, .int p1), (2, .int p2), (3, .int q5.1), (4, .int q5.2.1)] → W p l e rm_X5_readsDigits s m args below meth c H locs 0 0 Q (F0 m 5 ls [])) hf ?_ H locs ls hP hD hS (lv_sub hl [2, 3, 4, 1, 0] rfl)
  clear hf hP hD hS hl
  intro nx5 ih5 q5 hf H locs ls hP hD hS hl
  refine lv_iload hx hb dX5_readsDigits_5 (lv_at hl 4 rfl) ?_
  refine lv_iload_n hx hb dX5_readsDigits_7 rfl (lv_at hl 2 rfl) ?_
  refine lv_icmp_ge (tgt := 56) hx hb dX5_readsDigits_8 (by decide) (fun c_1 => ?_) (fun c_1 => ?_)
  · replace hf := if_t c_1 hf
    refine lv_aload_n hx hb dX5_readsDigits_56 rfl (lv_at hl 0 rfl) ?_
    refine va_get (D := D) (ci := 5) (v := .ref (A 12)) (C := RX5) (T := TX5) (N := 27) hx hb hts hw5 hown hK hP 0 cM_at0 rfl 15 (by decide) k43 (fun _ h9 => h9) rfl dX5_readsDigits_57 ?_
    refine lv_iload_n hx hb dX5_readsDigits_60 rfl (lv_at hl 1 rfl) ?_
    refine lv_iload_n hx hb dX5_readsDigits_61 rfl (lv_at hl 3 rfl) ?_
    obtain ⟨c_2, hf⟩ := gi_e hf
    refine va_iast hx hb hK hP hD hS 12 0 cM_at12 rfl c_2 dX5_readsDigits_62 (fun H locs hP hD hS => ?_)
    obtain ⟨h_3, eh_3, hf⟩ := nq_e hf
    rw [cM_su12, ← eh_3] at hP hD
    refine lv_iconst (v := 1) hx hb dX5_readsDigits_63 (by decide) ?_
    exact hend ((1 : Int32), h_3) H locs _ _ hf hP hS dX5_readsDigits_64
  · replace hf := if_f c_1 hf
    refine lv_aload_n hx hb dX5_readsDigits_11 rfl (lv_at hl 0 rfl) ?_
    obtain ⟨a_4, ha_4, hf⟩ := bd_e hf
    refine Ct.callV (As := []) (rest := []) (st1 := [.int a_4]) (c_X5_next l D cI A q5.2.2 a_4 ha_4) hx hb hml hown hts (cwV 0 hts gX5_readsDigits_X5_next rfl rfl rfl hd_X5_next ⟨Nat.le_of_ble_eq_true rfl, Nat.le_of_ble_eq_true rfl⟩) (va_recv hK hP (ci := 5) (q0 := 0) rfl cM_at0) (Ln.id rfl) hA hK hP hD hS rfl hl.1 rfl rfl (Nat.le_of_ble_eq_true rfl) dX5_readsDigits_12 (fun H locs hP hD hS => ?_)
    refine lv_bipush (v := 48) hx hb dX5_readsDigits_15 (by decide +kernel) ?_
    refine lv_bipush (v := 57) hx hb dX5_readsDigits_17 (by decide +kernel) ?_
    obtain ⟨a_5, ha_5, hf⟩ := bd_e hf
    refine Ct.callS (As := [.int a_4, .int (48 : Int32), .int (57 : Int32)]) (rest := []) (st1 := [.int a_5]) (c_X5_isIn l D cI  a_4 (48 : Int32) (57 : Int32) a_5 ha_5) hx hb hml hown hts (va_cwS 3 hts gX5_readsDigits_X5_isIn rfl rfl rfl hd_X5_isIn ⟨Nat.le_of_ble_eq_true rfl, Nat.le_of_ble_eq_true rfl⟩) Ln.nil hA hK hP hD hS rfl hl.1 rfl rfl (Nat.le_of_ble_eq_true rfl) dX5_readsDigits_19 (fun H locs hP hD hS => ?_)
    refine lv_if_ne (tgt := 27) hx hb dX5_readsDigits_22 (by decide) (fun c_6 => ?_) (fun c_6 => ?_)
    · replace hf := if_f c_6 hf
      refine lv_bipush (v := 10) hx hb dX5_readsDigits_27 (by decide +kernel) ?_
      refine lv_iload_n hx hb dX5_readsDigits_29 rfl (lv_at hl 3 rfl) ?_
      refine lv_imul hx hb dX5_readsDigits_30 ?_
      refine lv_aload_n hx hb dX5_readsDigits_31 rfl (lv_at hl 0 rfl) ?_
      obtain ⟨a_7, ha_7, hf⟩ := bd_e hf
      refine Ct.callV (As := []) (rest := [.int ((10 : Int32) * q5.1)]) (st1 := [.int a_7, .int ((10 : Int32) * q5.1)]) (c_X5_next l D cI A q5.2.2 a_7 ha_7) hx hb hml hown hts (cwV 0 hts gX5_readsDigits_X5_next rfl rfl rfl hd_X5_next ⟨Nat.le_of_ble_eq_true rfl, Nat.le_of_ble_eq_true rfl⟩) (va_recv hK hP (ci := 5) (q0 := 0) rfl cM_at0) (Ln.id rfl) hA hK hP hD hS rfl hl.1 rfl rfl (Nat.le_of_ble_eq_true rfl) dX5_readsDigits_32 (fun H locs hP hD hS => ?_)
      refine lv_iadd hx hb dX5_readsDigits_35 ?_
      refine lv_bipush (v := 48) hx hb dX5_readsDigits_36 (by decide +kernel) ?_
      refine lv_isub hx hb dX5_readsDigits_38 ?_
      refine lv_topi (fun v_8 ev_8 => ?_)
      replace hf := nm_at ev_8 hf
      refine lv_istore_n (lv' := [(3, .int v_8), (0, .ref (A 0)), (1, .int p1), (2, .int p2), (4, .int q5.2.1)]) hx hb dX5_readsDigits_39 rfl hl (by decide) rfl (fun ls hl => ?_)
      refine lv_aload_n hx hb dX5_readsDigits_40 rfl (lv_at hl 1 rfl) ?_
      refine lv_dup hx hb dX5_readsDigits_41 rfl ?_
      refine va_get (D := D) (ci := 5) (v := .int (q5.2.2 16 5)) (C := RX5) (T := TX5) (N := 27) hx hb hts hw5 hown hK hP 0 cM_at0 rfl 17 (by decide) k79 (fun _ h9 => h9) rfl dX5_readsDigits_42 ?_
      refine lv_iconst (v := 1) hx hb dX5_readsDigits_45 (by decide) ?_
      refine lv_iadd hx hb dX5_readsDigits_46 ?_
      refine va_put (D := D) (ci := 5) (v := .int ((q5.2.2 16 5) + (1 : Int32))) (ty := .int) (C := RX5) (T := TX5) (N := 27) hx hb hts hw5 tyX5 tyX5_ok nmX5 hown hK hP hD hS 0 cM_at0 rfl 17 (by decide) k79 (fun _ h9 => h9) rfl (tyX5_ok 17 (by decide)) rfl rfl (Nat.le_of_ble_eq_true rfl) dX5_readsDigits_47 (fun H locs hP hD hS => ?_)
      obtain ⟨h_9, eh_9, hf⟩ := nq_e hf
      rw [cM_sc0_17, ← eh_9] at hP hD
      obtain ⟨v_10, ev_10, hf⟩ := nq_e hf
      refine lv_iinc (v := v_10) (lv' := [(4, .int v_10), (3, .int v_8), (0, .ref (A 0)), (1, .int p1), (2, .int p2)]) hx hb dX5_readsDigits_50 hl (k := 4) rfl (by rw [ev_10]; rfl) (by decide) rfl (fun ls hl => ?_)
      refine lv_goto (tgt := 5) hx hb dX5_readsDigits_53 (by decide) ?_
      exact ih5 (v_8, v_10, h_9) hf H locs ls hP hD hS (lv_sub hl [2, 3, 4, 1, 0] rfl)
    · replace hf := if_t c_6 hf
      refine lv_iconst (v := 0) hx hb dX5_readsDigits_25 (by decide) ?_
      exact hend ((0 : Int32), q5.2.2) H locs _ _ hf hP hS dX5_readsDigits_26

def rm_X5_kindOf : Room := { frames := 0, cells := 0, slots := 0, locals := 0 }
theorem hd_X5_kindOf : yX5_kindOf.cls ≠ "java/lang/invoke/MethodHandle" ∧ yX5_kindOf.cls ≠ "java/lang/invoke/VarHandle" ∧ (parseMethodDescriptor yX5_kindOf.desc).map (fun d => d.parameters.length) = some 1 := by decide +kernel
set_option maxRecDepth 100000 in
set_option maxHeartbeats 4000000 in
theorem c_X5_kindOf (l : Launch) (D : va_G) (cI : ClassId) (p1 : Int32) (r : Int32) (hf : f_X5_kindOf p1 = some r) : Ct l yX5_kindOf wsX5_kindOf rm_X5_kindOf D cI [] [] [.int p1] (some (.int r)) := by
  unfold f_X5_kindOf at hf
  refine Ct.ofI (cc := cX5_kindOf) (maxL := 1) (by decide +kernel) rfl (Nat.le_of_ble_eq_true rfl) ?_
  intro p e s m args below meth c AA Q H locs ls hx hb hml hown hts hA hK hP hD hS hl hend0
  have hend : ∀ (r1 : Int32) (H : Heap) (locs : List Loc) (pc : Nat) (ls : Array Slot), some r1 = some r → va_P D vwCl [] H → va_S AA s.heap H locs → decode cX5_kindOf pc = .ok (.ireturn, 1) → W p l e rm_X5_kindOf s m args below meth c H locs 0 0 Q (F0 m pc ls [.int r1]) := by
    intro r1 H locs pc ls e1 hP hS hd; cases e1; exact hend0 H locs pc ls hP hS hd
  clear hend0
  replace hl : lv_has ls 1 [(0, .int p1)] := hl
  refine lv_iload_n hx hb dX5_kindOf_0 rfl (lv_at hl 0 rfl) ?_
  refine lv_bipush (v := 104) hx hb dX5_kindOf_1 (by decide +kernel) ?_
  refine lv_icmp_ne (tgt := 10) hx hb dX5_kindOf_3 (by decide) (fun c_1 => ?_) (fun c_1 => ?_)
  · replace hf := if_f c_1 hf
    refine lv_iload_n hx hb dX5_kindOf_10 rfl (lv_at hl 0 rfl) ?_
    refine lv_bipush (v := 112) hx hb dX5_kindOf_11 (by decide +kernel) ?_
    refine lv_icmp_ne (tgt := 20) hx hb dX5_kindOf_13 (by decide) (fun c_2 => ?_) (fun c_2 => ?_)
    · replace hf := if_f c_2 hf
      refine lv_iload_n hx hb dX5_kindOf_20 rfl (lv_at hl 0 rfl) ?_
      refine lv_bipush (v := 109) hx hb dX5_kindOf_21 (by decide +kernel) ?_
      refine lv_icmp_ne (tgt := 30) hx hb dX5_kindOf_23 (by decide) (fun c_3 => ?_) (fun c_3 => ?_)
      · replace hf := if_f c_3 hf
        refine lv_iload_n hx hb dX5_kindOf_30 rfl (lv_at hl 0 rfl) ?_
        refine lv_bipush (v := 115) hx hb dX5_kindOf_31 (by decide +kernel) ?_
        refine lv_icmp_ne (tgt := 40) hx hb dX5_kindOf_33 (by decide) (fun c_4 => ?_) (fun c_4 => ?_)
        · replace hf := if_f c_4 hf
          refine lv_iload_n hx hb dX5_kindOf_40 rfl (lv_at hl 0 rfl) ?_
          refine lv_bipush (v := 97) hx hb dX5_kindOf_41 (by decide +kernel) ?_
          refine lv_icmp_ne (tgt := 50) hx hb dX5_kindOf_43 (by decide) (fun c_5 => ?_) (fun c_5 => ?_)
          · replace hf := if_f c_5 hf
            refine lv_iload_n hx hb dX5_kindOf_50 rfl (lv_at hl 0 rfl) ?_
            refine lv_bipush (v := 98) hx hb dX5_kindOf_51 (by decide +kernel) ?_
            refine lv_icmp_ne (tgt := 60) hx hb dX5_kindOf_53 (by decide) (fun c_6 => ?_) (fun c_6 => ?_)
            · replace hf := if_f c_6 hf
              refine lv_iconst (v := -1) hx hb dX5_kindOf_60 (by decide) ?_
              exact hend (-1 : Int32) H locs _ _ hf hP hS dX5_kindOf_61
            · replace hf := if_t c_6 hf
              refine lv_iconst (v := 5) hx hb dX5_kindOf_56 (by decide) ?_
              refine lv_goto (tgt := 61) hx hb dX5_kindOf_57 (by decide) ?_
              exact hend (5 : Int32) H locs _ _ hf hP hS dX5_kindOf_61
          · replace hf := if_t c_5 hf
            refine lv_iconst (v := 4) hx hb dX5_kindOf_46 (by decide) ?_
            refine lv_goto (tgt := 61) hx hb dX5_kindOf_47 (by decide) ?_
            exact hend (4 : Int32) H locs _ _ hf hP hS dX5_kindOf_61
        · replace hf := if_t c_4 hf
          refine lv_iconst (v := 3) hx hb dX5_kindOf_36 (by decide) ?_
          refine lv_goto (tgt := 61) hx hb dX5_kindOf_37 (by decide) ?_
          exact hend (3 : Int32) H locs _ _ hf hP hS dX5_kindOf_61
      · replace hf := if_t c_3 hf
        refine lv_iconst (v := 2) hx hb dX5_kindOf_26 (by decide) ?_
        refine lv_goto (tgt := 61) hx hb dX5_kindOf_27 (by decide) ?_
        exact hend (2 : Int32) H locs _ _ hf hP hS dX5_kindOf_61
    · replace hf := if_t c_2 hf
      refine lv_iconst (v := 1) hx hb dX5_kindOf_16 (by decide) ?_
      refine lv_goto (tgt := 61) hx hb dX5_kindOf_17 (by decide) ?_
      exact hend (1 : Int32) H locs _ _ hf hP hS dX5_kindOf_61
  · replace hf := if_t c_1 hf
    refine lv_iconst (v := 0) hx hb dX5_kindOf_6 (by decide) ?_
    refine lv_goto (tgt := 61) hx hb dX5_kindOf_7 (by decide) ?_
    exact hend (0 : Int32) H locs _ _ hf hP hS dX5_kindOf_61

def rm_X5_readsMan : Room := { frames := 2, cells := 0, slots := 0, locals := 46 }
theorem hd_X5_readsMan : yX5_readsMan.cls = RX5 ∧ yX5_readsMan.cls ≠ "java/lang/invoke/MethodHandle" ∧ yX5_readsMan.cls ≠ "java/lang/invoke/VarHandle" ∧ (parseMethodDescriptor yX5_readsMan.desc).map (fun d => d.parameters.length) = some 1 := by decide +kernel
set_option maxRecDepth 100000 in
set_option maxHeartbeats 4000000 in
theorem c_X5_readsMan (l : Launch) (D : va_G) (cI : ClassId) (A : Nat → Nat) (M : St) (p1 : Int32) (r : Int32 × St) (hf : f_X5_readsMan M p1 = some r) : Ct l yX5_readsMan wsX5_readsMan rm_X5_readsMan D cI (cM cI A M) (cM cI A r.2) [.ref (A 0), .int p1] (some (.int r.1)) := by
  unfold f_X5_readsMan at hf
  obtain ⟨hz, hf⟩ := fzp_e hf
  refine Ct.ofZ hz (cc := cX5_readsMan) (maxL := 2) (by decide +kernel) rfl (Nat.le_of_ble_eq_true rfl) ?_
  intro p e s m args below meth c AA Q H locs ls hx hb hml hown hts hA hK hP hD hS hl hend0
  have hend : ∀ (r1 : Int32 × St) (H : Heap) (locs : List Loc) (pc : Nat) (ls : Array Slot), some r1 = some r → va_P D vwCl (cM cI A r1.2) H → va_S AA s.heap H locs → decode cX5_readsMan pc = .ok (.ireturn, 1) → W p l e rm_X5_readsMan s m args below meth c H locs 0 0 Q (F0 m pc ls [.int r1.1]) := by
    intro r1 H locs pc ls e1 hP hS hd; cases e1; exact hend0 H locs pc ls hP hS hd
  clear hend0
  have hw5 : ∀ w ∈ wsX50, w ∈ wsX5_readsMan := by decide +kernel
  have k43 := hts (.fieldLink RX5 43 "AnchorsForConfessionModel" "told" "[I") (by decide +kernel)
  have k79 := hts (.fieldLink RX5 79 "AnchorsForConfessionModel" "at" "I") (by decide +kernel)
  replace hl : lv_has ls 2 [(0, .ref (A 0)), (1, .int p1)] := hl
  refine lv_aload_n hx hb dX5_readsMan_0 rfl (lv_at hl 0 rfl) ?_
  refine va_get (D := D) (ci := 5) (v := .ref (A 12)) (C := RX5) (T := TX5) (N := 27) hx hb hts hw5 hown hK hP 0 cM_at0 rfl 15 (by decide) k43 (fun _ h9 => h9) rfl dX5_readsMan_1 ?_
  refine lv_iload_n hx hb dX5_readsMan_4 rfl (lv_at hl 1 rfl) ?_
  refine lv_aload_n hx hb dX5_readsMan_5 rfl (lv_at hl 0 rfl) ?_
  obtain ⟨a_1, ha_1, hf⟩ := bd_e hf
  refine Ct.callV (As := []) (rest := [.int p1, .ref (A 12)]) (st1 := [.int a_1, .int p1, .ref (A 12)]) (c_X5_next l D cI A M a_1 ha_1) hx hb hml hown hts (cwV 0 hts gX5_readsMan_X5_next rfl rfl rfl hd_X5_next ⟨Nat.le_of_ble_eq_true rfl, Nat.le_of_ble_eq_true rfl⟩) (va_recv hK hP (ci := 5) (q0 := 0) rfl cM_at0) (Ln.id rfl) hA hK hP hD hS rfl hl.1 rfl rfl (Nat.le_of_ble_eq_true rfl) dX5_readsMan_6 (fun H locs hP hD hS => ?_)
  obtain ⟨a_2, ha_2, hf⟩ := bd_e hf
  refine Ct.callS (As := [.int a_1]) (rest := [.int p1, .ref (A 12)]) (st1 := [.int a_2, .int p1, .ref (A 12)]) (c_X5_kindOf l D cI  a_1 a_2 ha_2) hx hb hml hown hts (va_cwS 1 hts gX5_readsMan_X5_kindOf rfl rfl rfl hd_X5_kindOf ⟨Nat.le_of_ble_eq_true rfl, Nat.le_of_ble_eq_true rfl⟩) Ln.nil hA hK hP hD hS rfl hl.1 rfl rfl (Nat.le_of_ble_eq_true rfl) dX5_readsMan_9 (fun H locs hP hD hS => ?_)
  obtain ⟨c_3, hf⟩ := gi_e hf
  refine va_iast hx hb hK hP hD hS 12 0 cM_at12 rfl c_3 dX5_readsMan_12 (fun H locs hP hD hS => ?_)
  obtain ⟨h_4, eh_4, hf⟩ := nq_e hf
  rw [cM_su12, ← eh_4] at hP hD
  refine lv_aload_n hx hb dX5_readsMan_13 rfl (lv_at hl 0 rfl) ?_
  refine va_get (D := D) (ci := 5) (v := .ref (A 12)) (C := RX5) (T := TX5) (N := 27) hx hb hts hw5 hown hK hP 0 cM_at0 rfl 15 (by decide) k43 (fun _ h9 => h9) rfl dX5_readsMan_14 ?_
  refine lv_iload_n hx hb dX5_readsMan_17 rfl (lv_at hl 1 rfl) ?_
  obtain ⟨c_5, hf⟩ := gi_e hf
  refine va_iald hx hb hK hP 12 0 cM_at12 rfl c_5 dX5_readsMan_18 ?_
  refine lv_if_ge (tgt := 24) hx hb dX5_readsMan_19 (by decide) (fun c_6 => ?_) (fun c_6 => ?_)
  · replace hf := if_t c_6 hf
    refine lv_aload_n hx hb dX5_readsMan_24 rfl (lv_at hl 0 rfl) ?_
    refine lv_dup hx hb dX5_readsMan_25 rfl ?_
    refine va_get (D := D) (ci := 5) (v := .int (h_4 16 5)) (C := RX5) (T := TX5) (N := 27) hx hb hts hw5 hown hK hP 0 cM_at0 rfl 17 (by decide) k79 (fun _ h9 => h9) rfl dX5_readsMan_26 ?_
    refine lv_iconst (v := 1) hx hb dX5_readsMan_29 (by decide) ?_
    refine lv_iadd hx hb dX5_readsMan_30 ?_
    refine va_put (D := D) (ci := 5) (v := .int ((h_4 16 5) + (1 : Int32))) (ty := .int) (C := RX5) (T := TX5) (N := 27) hx hb hts hw5 tyX5 tyX5_ok nmX5 hown hK hP hD hS 0 cM_at0 rfl 17 (by decide) k79 (fun _ h9 => h9) rfl (tyX5_ok 17 (by decide)) rfl rfl (Nat.le_of_ble_eq_true rfl) dX5_readsMan_31 (fun H locs hP hD hS => ?_)
    obtain ⟨h_7, eh_7, hf⟩ := nq_e hf
    rw [cM_sc0_17, ← eh_7] at hP hD
    refine lv_aload_n hx hb dX5_readsMan_34 rfl (lv_at hl 0 rfl) ?_
    refine lv_iload_n hx hb dX5_readsMan_35 rfl (lv_at hl 1 rfl) ?_
    refine lv_iconst (v := 1) hx hb dX5_readsMan_36 (by decide) ?_
    refine lv_iadd hx hb dX5_readsMan_37 ?_
    refine lv_iconst (v := 1) hx hb dX5_readsMan_38 (by decide) ?_
    obtain ⟨a_8, ha_8, hf⟩ := bd_e hf
    refine Ct.callV (As := [.int (p1 + (1 : Int32)), .int (1 : Int32)]) (rest := []) (st1 := [.int a_8.1]) (c_X5_readsDigits l D cI A h_7 (p1 + (1 : Int32)) (1 : Int32) a_8 ha_8) hx hb hml hown hts (cwV 2 hts gX5_readsMan_X5_readsDigits rfl rfl rfl hd_X5_readsDigits ⟨Nat.le_of_ble_eq_true rfl, Nat.le_of_ble_eq_true rfl⟩) (va_recv hK hP (ci := 5) (q0 := 0) rfl cM_at0) (Ln.id rfl) hA hK hP hD hS rfl hl.1 rfl rfl (Nat.le_of_ble_eq_true rfl) dX5_readsMan_39 (fun H locs hP hD hS => ?_)
    replace hP : va_P D vwCl (cM cI A a_8.2) H := hP
    replace hD : va_D AA (cM cI A a_8.2) := hD
    refine lv_if_eq (tgt := 71) hx hb dX5_readsMan_42 (by decide) (fun c_9 => ?_) (fun c_9 => ?_)
    · replace hf := if_t c_9 hf
      refine lv_iconst (v := 0) hx hb dX5_readsMan_71 (by decide) ?_
      exact hend ((0 : Int32), a_8.2) H locs _ _ hf hP hS dX5_readsMan_72
    · replace hf := if_f c_9 hf
      refine lv_aload_n hx hb dX5_readsMan_45 rfl (lv_at hl 0 rfl) ?_
      refine lv_iload_n hx hb dX5_readsMan_46 rfl (lv_at hl 1 rfl) ?_
      refine lv_iconst (v := 2) hx hb dX5_readsMan_47 (by decide) ?_
      refine lv_iadd hx hb dX5_readsMan_48 ?_
      refine lv_iconst (v := 1) hx hb dX5_readsMan_49 (by decide) ?_
      obtain ⟨a_10, ha_10, hf⟩ := bd_e hf
      refine Ct.callV (As := [.int (p1 + (2 : Int32)), .int (1 : Int32)]) (rest := []) (st1 := [.int a_10.1]) (c_X5_readsDigits l D cI A a_8.2 (p1 + (2 : Int32)) (1 : Int32) a_10 ha_10) hx hb hml hown hts (cwV 2 hts gX5_readsMan_X5_readsDigits rfl rfl rfl hd_X5_readsDigits ⟨Nat.le_of_ble_eq_true rfl, Nat.le_of_ble_eq_true rfl⟩) (va_recv hK hP (ci := 5) (q0 := 0) rfl cM_at0) (Ln.id rfl) hA hK hP hD hS rfl hl.1 rfl rfl (Nat.le_of_ble_eq_true rfl) dX5_readsMan_50 (fun H locs hP hD hS => ?_)
      replace hP : va_P D vwCl (cM cI A a_10.2) H := hP
      replace hD : va_D AA (cM cI A a_10.2) := hD
      refine lv_if_eq (tgt := 71) hx hb dX5_readsMan_53 (by decide) (fun c_11 => ?_) (fun c_11 => ?_)
      · replace hf := if_t c_11 hf
        refine lv_iconst (v := 0) hx hb dX5_readsMan_71 (by decide) ?_
        exact hend ((0 : Int32), a_10.2) H locs _ _ hf hP hS dX5_readsMan_72
      · replace hf := if_f c_11 hf
        refine lv_aload_n hx hb dX5_readsMan_56 rfl (lv_at hl 0 rfl) ?_
        refine lv_iload_n hx hb dX5_readsMan_57 rfl (lv_at hl 1 rfl) ?_
        refine lv_iconst (v := 3) hx hb dX5_readsMan_58 (by decide) ?_
        refine lv_iadd hx hb dX5_readsMan_59 ?_
        refine lv_iconst (v := 1) hx hb dX5_readsMan_60 (by decide) ?_
        obtain ⟨a_12, ha_12, hf⟩ := bd_e hf
        refine Ct.callV (As := [.int (p1 + (3 : Int32)), .int (1 : Int32)]) (rest := []) (st1 := [.int a_12.1]) (c_X5_readsDigits l D cI A a_10.2 (p1 + (3 : Int32)) (1 : Int32) a_12 ha_12) hx hb hml hown hts (cwV 2 hts gX5_readsMan_X5_readsDigits rfl rfl rfl hd_X5_readsDigits ⟨Nat.le_of_ble_eq_true rfl, Nat.le_of_ble_eq_true rfl⟩) (va_recv hK hP (ci := 5) (q0 := 0) rfl cM_at0) (Ln.id rfl) hA hK hP hD hS rfl hl.1 rfl rfl (Nat.le_of_ble_eq_true rfl) dX5_readsMan_61 (fun H locs hP hD hS => ?_)
        replace hP : va_P D vwCl (cM cI A a_12.2) H := hP
        replace hD : va_D AA (cM cI A a_12.2) := hD
        refine lv_if_eq (tgt := 71) hx hb dX5_readsMan_64 (by decide) (fun c_13 => ?_) (fun c_13 => ?_)
        · replace hf := if_t c_13 hf
          refine lv_iconst (v := 0) hx hb dX5_readsMan_71 (by decide) ?_
          exact hend ((0 : Int32), a_12.2) H locs _ _ hf hP hS dX5_readsMan_72
        · replace hf := if_f c_13 hf
          refine lv_iconst (v := 1) hx hb dX5_readsMan_67 (by decide) ?_
          refine lv_goto (tgt := 72) hx hb dX5_readsMan_68 (by decide) ?_
          exact hend ((1 : Int32), a_12.2) H locs _ _ hf hP hS dX5_readsMan_72
  · replace hf := if_f c_6 hf
    refine lv_iconst (v := 0) hx hb dX5_readsMan_22 (by decide) ?_
    exact hend ((0 : Int32), h_4) H locs _ _ hf hP hS dX5_readsMan_23

def rm_X5_readsAll : Room := { frames := 3, cells := 0, slots := 0, locals := 67 }
theorem hd_X5_readsAll : yX5_readsAll.cls = RX5 ∧ yX5_readsAll.cls ≠ "java/lang/invoke/MethodHandle" ∧ yX5_readsAll.cls ≠ "java/lang/invoke/VarHandle" ∧ (parseMethodDescriptor yX5_readsAll.desc).map (fun d => d.parameters.length) = some 2 := by decide +kernel
set_option maxRecDepth 100000 in
set_option maxHeartbeats 4000000 in
theorem c_X5_readsAll (l : Launch) (D : va_G) (cI : ClassId) (A : Nat → Nat) (M : St) (p1 : Int32) (p2 : Int32) (r : Int32 × St) (hf : f_X5_readsAll M p1 p2 = some r) : Ct l yX5_readsAll wsX5_readsAll rm_X5_readsAll D cI (cM cI A M) (cM cI A r.2) [.ref (A 0), .int p1, .int p2] (some (.int r.1)) := by
  unfold f_X5_readsAll at hf
  obtain ⟨hz, hf⟩ := fzp_e hf
  refine Ct.ofZ hz (cc := cX5_readsAll) (maxL := 3) (by decide +kernel) rfl (Nat.le_of_ble_eq_true rfl) ?_
  intro p e s m args below meth c AA Q H locs ls hx hb hml hown hts hA hK hP hD hS hl hend0
  have hend : ∀ (r1 : Int32 × St) (H : Heap) (locs : List Loc) (pc : Nat) (ls : Array Slot), some r1 = some r → va_P D vwCl (cM cI A r1.2) H → va_S AA s.heap H locs → decode cX5_readsAll pc = .ok (.ireturn, 1) → W p l e rm_X5_readsAll s m args below meth c H locs 0 0 Q (F0 m pc ls [.int r1.1]) := by
    intro r1 H locs pc ls e1 hP hS hd; cases e1; exact hend0 H locs pc ls hP hS hd
  clear hend0
  replace hl : lv_has ls 3 [(0, .ref (A 0)), (1, .int p1), (2, .int p2)] := hl
  refine lv_iload_n hx hb dX5_readsAll_0 rfl (lv_at hl 1 rfl) ?_
  by_cases c_1 : p1 = 109
  · replace hf := if_t c_1 hf
    refine lv_lookup (off := 43) (tgt := 44) hx hb dX5_readsAll_1 (by decide) (by rw [c_1]; decide +kernel) (by decide) ?_
    refine lv_aload_n hx hb dX5_readsAll_44 rfl (lv_at hl 0 rfl) ?_
    refine lv_iload_n hx hb dX5_readsAll_45 rfl (lv_at hl 2 rfl) ?_
    obtain ⟨a_2, ha_2, hf⟩ := bd_e hf
    refine Ct.callV (As := [.int p2]) (rest := []) (st1 := [.int a_2.1]) (c_X5_readsMan l D cI A M p2 a_2 ha_2) hx hb hml hown hts (cwV 1 hts gX5_readsAll_X5_readsMan rfl rfl rfl hd_X5_readsMan ⟨Nat.le_of_ble_eq_true rfl, Nat.le_of_ble_eq_true rfl⟩) (va_recv hK hP (ci := 5) (q0 := 0) rfl cM_at0) (Ln.id rfl) hA hK hP hD hS rfl hl.1 rfl rfl (Nat.le_of_ble_eq_true rfl) dX5_readsAll_46 (fun H locs hP hD hS => ?_)
    replace hP : va_P D vwCl (cM cI A a_2.2) H := hP
    replace hD : va_D AA (cM cI A a_2.2) := hD
    exact hend (a_2.1, a_2.2) H locs _ _ hf hP hS dX5_readsAll_49
  · replace hf := if_f c_1 hf
    by_cases c_3 : p1 = 115
    · replace hf := if_t c_3 hf
      refine lv_lookup (off := 49) (tgt := 50) hx hb dX5_readsAll_1 (by decide) (by rw [c_3]; decide +kernel) (by decide) ?_
      refine lv_aload_n hx hb dX5_readsAll_50 rfl (lv_at hl 0 rfl) ?_
      refine lv_iload_n hx hb dX5_readsAll_51 rfl (lv_at hl 2 rfl) ?_
      refine lv_iconst (v := 1) hx hb dX5_readsAll_52 (by decide) ?_
      obtain ⟨a_4, ha_4, hf⟩ := bd_e hf
      refine Ct.callV (As := [.int p2, .int (1 : Int32)]) (rest := []) (st1 := [.int a_4.1]) (c_X5_readsDigits l D cI A M p2 (1 : Int32) a_4 ha_4) hx hb hml hown hts (cwV 2 hts gX5_readsAll_X5_readsDigits rfl rfl rfl hd_X5_readsDigits ⟨Nat.le_of_ble_eq_true rfl, Nat.le_of_ble_eq_true rfl⟩) (va_recv hK hP (ci := 5) (q0 := 0) rfl cM_at0) (Ln.id rfl) hA hK hP hD hS rfl hl.1 rfl rfl (Nat.le_of_ble_eq_true rfl) dX5_readsAll_53 (fun H locs hP hD hS => ?_)
      replace hP : va_P D vwCl (cM cI A a_4.2) H := hP
      replace hD : va_D AA (cM cI A a_4.2) := hD
      exact hend (a_4.1, a_4.2) H locs _ _ hf hP hS dX5_readsAll_56
    · replace hf := if_f c_3 hf
      by_cases c_5 : p1 = 116
      · replace hf := if_t c_5 hf
        refine lv_lookup (off := 49) (tgt := 50) hx hb dX5_readsAll_1 (by decide) (by rw [c_5]; decide +kernel) (by decide) ?_
        refine lv_aload_n hx hb dX5_readsAll_50 rfl (lv_at hl 0 rfl) ?_
        refine lv_iload_n hx hb dX5_readsAll_51 rfl (lv_at hl 2 rfl) ?_
        refine lv_iconst (v := 1) hx hb dX5_readsAll_52 (by decide) ?_
        obtain ⟨a_6, ha_6, hf⟩ := bd_e hf
        refine Ct.callV (As := [.int p2, .int (1 : Int32)]) (rest := []) (st1 := [.int a_6.1]) (c_X5_readsDigits l D cI A M p2 (1 : Int32) a_6 ha_6) hx hb hml hown hts (cwV 2 hts gX5_readsAll_X5_readsDigits rfl rfl rfl hd_X5_readsDigits ⟨Nat.le_of_ble_eq_true rfl, Nat.le_of_ble_eq_true rfl⟩) (va_recv hK hP (ci := 5) (q0 := 0) rfl cM_at0) (Ln.id rfl) hA hK hP hD hS rfl hl.1 rfl rfl (Nat.le_of_ble_eq_true rfl) dX5_readsAll_53 (fun H locs hP hD hS => ?_)
        replace hP : va_P D vwCl (cM cI A a_6.2) H := hP
        replace hD : va_D AA (cM cI A a_6.2) := hD
        exact hend (a_6.1, a_6.2) H locs _ _ hf hP hS dX5_readsAll_56
      · replace hf := if_f c_5 hf
        by_cases c_7 : p1 = 119
        · replace hf := if_t c_7 hf
          refine lv_lookup (off := 56) (tgt := 57) hx hb dX5_readsAll_1 (by decide) (by rw [c_7]; decide +kernel) (by decide) ?_
          refine lv_aload_n hx hb dX5_readsAll_57 rfl (lv_at hl 0 rfl) ?_
          refine lv_iload_n hx hb dX5_readsAll_58 rfl (lv_at hl 2 rfl) ?_
          refine lv_iconst (v := 2) hx hb dX5_readsAll_59 (by decide) ?_
          obtain ⟨a_8, ha_8, hf⟩ := bd_e hf
          refine Ct.callV (As := [.int p2, .int (2 : Int32)]) (rest := []) (st1 := [.int a_8.1]) (c_X5_readsDigits l D cI A M p2 (2 : Int32) a_8 ha_8) hx hb hml hown hts (cwV 2 hts gX5_readsAll_X5_readsDigits rfl rfl rfl hd_X5_readsDigits ⟨Nat.le_of_ble_eq_true rfl, Nat.le_of_ble_eq_true rfl⟩) (va_recv hK hP (ci := 5) (q0 := 0) rfl cM_at0) (Ln.id rfl) hA hK hP hD hS rfl hl.1 rfl rfl (Nat.le_of_ble_eq_true rfl) dX5_readsAll_60 (fun H locs hP hD hS => ?_)
          replace hP : va_P D vwCl (cM cI A a_8.2) H := hP
          replace hD : va_D AA (cM cI A a_8.2) := hD
          exact hend (a_8.1, a_8.2) H locs _ _ hf hP hS dX5_readsAll_63
        · replace hf := if_f c_7 hf
          refine lv_lookup (off := 63) (tgt := 64) hx hb dX5_readsAll_1 (by decide) (by show Op.lookupswitch.offset [(109, 43), (115, 49), (116, 49), (119, 56)] 63 _ = _; rw [lv_osw c_1 (by decide +kernel), lv_osw c_3 (by decide +kernel), lv_osw c_5 (by decide +kernel), lv_osw c_7 (by decide +kernel)]; rfl) (by decide) ?_
          refine lv_aload_n hx hb dX5_readsAll_64 rfl (lv_at hl 0 rfl) ?_
          refine lv_iload_n hx hb dX5_readsAll_65 rfl (lv_at hl 2 rfl) ?_
          refine lv_iconst (v := 1) hx hb dX5_readsAll_66 (by decide) ?_
          obtain ⟨a_9, ha_9, hf⟩ := bd_e hf
          refine Ct.callV (As := [.int p2, .int (1 : Int32)]) (rest := []) (st1 := [.int a_9.1]) (c_X5_readsDigits l D cI A M p2 (1 : Int32) a_9 ha_9) hx hb hml hown hts (cwV 2 hts gX5_readsAll_X5_readsDigits rfl rfl rfl hd_X5_readsDigits ⟨Nat.le_of_ble_eq_true rfl, Nat.le_of_ble_eq_true rfl⟩) (va_recv hK hP (ci := 5) (q0 := 0) rfl cM_at0) (Ln.id rfl) hA hK hP hD hS rfl hl.1 rfl rfl (Nat.le_of_ble_eq_true rfl) dX5_readsAll_67 (fun H locs hP hD hS => ?_)
          replace hP : va_P D vwCl (cM cI A a_9.2) H := hP
          replace hD : va_D AA (cM cI A a_9.2) := hD
          refine lv_if_eq (tgt := 88) hx hb dX5_readsAll_70 (by decide) (fun c_10 => ?_) (fun c_10 => ?_)
          · replace hf := if_t c_10 hf
            refine lv_iconst (v := 0) hx hb dX5_readsAll_88 (by decide) ?_
            exact hend ((0 : Int32), a_9.2) H locs _ _ hf hP hS dX5_readsAll_89
          · replace hf := if_f c_10 hf
            refine lv_aload_n hx hb dX5_readsAll_73 rfl (lv_at hl 0 rfl) ?_
            refine lv_iload_n hx hb dX5_readsAll_74 rfl (lv_at hl 2 rfl) ?_
            refine lv_iconst (v := 1) hx hb dX5_readsAll_75 (by decide) ?_
            refine lv_iadd hx hb dX5_readsAll_76 ?_
            refine lv_iconst (v := 1) hx hb dX5_readsAll_77 (by decide) ?_
            obtain ⟨a_11, ha_11, hf⟩ := bd_e hf
            refine Ct.callV (As := [.int (p2 + (1 : Int32)), .int (1 : Int32)]) (rest := []) (st1 := [.int a_11.1]) (c_X5_readsDigits l D cI A a_9.2 (p2 + (1 : Int32)) (1 : Int32) a_11 ha_11) hx hb hml hown hts (cwV 2 hts gX5_readsAll_X5_readsDigits rfl rfl rfl hd_X5_readsDigits ⟨Nat.le_of_ble_eq_true rfl, Nat.le_of_ble_eq_true rfl⟩) (va_recv hK hP (ci := 5) (q0 := 0) rfl cM_at0) (Ln.id rfl) hA hK hP hD hS rfl hl.1 rfl rfl (Nat.le_of_ble_eq_true rfl) dX5_readsAll_78 (fun H locs hP hD hS => ?_)
            replace hP : va_P D vwCl (cM cI A a_11.2) H := hP
            replace hD : va_D AA (cM cI A a_11.2) := hD
            refine lv_if_eq (tgt := 88) hx hb dX5_readsAll_81 (by decide) (fun c_12 => ?_) (fun c_12 => ?_)
            · replace hf := if_t c_12 hf
              refine lv_iconst (v := 0) hx hb dX5_readsAll_88 (by decide) ?_
              exact hend ((0 : Int32), a_11.2) H locs _ _ hf hP hS dX5_readsAll_89
            · replace hf := if_f c_12 hf
              refine lv_iconst (v := 1) hx hb dX5_readsAll_84 (by decide) ?_
              refine lv_goto (tgt := 89) hx hb dX5_readsAll_85 (by decide) ?_
              exact hend ((1 : Int32), a_11.2) H locs _ _ hf hP hS dX5_readsAll_89

def rm_X5_statement : Room := { frames := 4, cells := 0, slots := 0, locals := 89 }
theorem hd_X5_statement : yX5_statement.cls = RX5 ∧ yX5_statement.cls ≠ "java/lang/invoke/MethodHandle" ∧ yX5_statement.cls ≠ "java/lang/invoke/VarHandle" ∧ (parseMethodDescriptor yX5_statement.desc).map (fun d => d.parameters.length) = some 0 := by decide +kernel
set_option maxRecDepth 100000 in
set_option maxHeartbeats 4000000 in
theorem c_X5_statement (l : Launch) (D : va_G) (cI : ClassId) (A : Nat → Nat) (M : St) (r : Int32 × St) (hf : f_X5_statement M = some r) : Ct l yX5_statement wsX5_statement rm_X5_statement D cI (cM cI A M) (cM cI A r.2) [.ref (A 0)] (some (.int r.1)) := by
  unfold f_X5_statement at hf
  obtain ⟨hz, hf⟩ := fzp_e hf
  refine Ct.ofZ hz (cc := cX5_statement) (maxL := 2) (by decide +kernel) rfl (Nat.le_of_ble_eq_true rfl) ?_
  intro p e s m args below meth c AA Q H locs ls hx hb hml hown hts hA hK hP hD hS hl hend0
  have hend : ∀ (r1 : Int32 × St) (H : Heap) (locs : List Loc) (pc : Nat) (ls : Array Slot), some r1 = some r → va_P D vwCl (cM cI A r1.2) H → va_S AA s.heap H locs → decode cX5_statement pc = .ok (.ireturn, 1) → W p l e rm_X5_statement s m args below meth c H locs 0 0 Q (F0 m pc ls [.int r1.1]) := by
    intro r1 H locs pc ls e1 hP hS hd; cases e1; exact hend0 H locs pc ls hP hS hd
  clear hend0
  have hw5 : ∀ w ∈ wsX50, w ∈ wsX5_statement := by decide +kernel
  have k37 := hts (.fieldLink RX5 37 "AnchorsForConfessionModel" "letter" "[I") (by decide +kernel)
  have k40 := hts (.fieldLink RX5 40 "AnchorsForConfessionModel" "letterAt" "[I") (by decide +kernel)
  have k79 := hts (.fieldLink RX5 79 "AnchorsForConfessionModel" "at" "I") (by decide +kernel)
  have k101 := hts (.fieldLink RX5 101 "AnchorsForConfessionModel" "statements" "I") (by decide +kernel)
  replace hl : lv_has ls 2 [(0, .ref (A 0))] := hl
  refine lv_aload_n hx hb dX5_statement_0 rfl (lv_at hl 0 rfl) ?_
  obtain ⟨a_1, ha_1, hf⟩ := bd_e hf
  refine Ct.callV (As := []) (rest := []) (st1 := [.int a_1]) (c_X5_next l D cI A M a_1 ha_1) hx hb hml hown hts (cwV 0 hts gX5_statement_X5_next rfl rfl rfl hd_X5_next ⟨Nat.le_of_ble_eq_true rfl, Nat.le_of_ble_eq_true rfl⟩) (va_recv hK hP (ci := 5) (q0 := 0) rfl cM_at0) (Ln.id rfl) hA hK hP hD hS rfl hl.1 rfl rfl (Nat.le_of_ble_eq_true rfl) dX5_statement_1 (fun H locs hP hD hS => ?_)
  refine lv_istore_n (lv' := [(1, .int a_1), (0, .ref (A 0))]) hx hb dX5_statement_4 rfl hl (by decide) rfl (fun ls hl => ?_)
  refine lv_iload_n hx hb dX5_statement_5 rfl (lv_at hl 0 rfl) ?_
  refine lv_bipush (v := 115) hx hb dX5_statement_6 (by decide +kernel) ?_
  refine lv_icmp_eq (tgt := 43) hx hb dX5_statement_8 (by decide) (fun c_2 => ?_) (fun c_2 => ?_)
  · replace hf := if_t c_2 hf
    refine lv_aload_n hx hb dX5_statement_43 rfl (lv_at hl 1 rfl) ?_
    refine va_get (D := D) (ci := 5) (v := .ref (A 10)) (C := RX5) (T := TX5) (N := 27) hx hb hts hw5 hown hK hP 0 cM_at0 rfl 13 (by decide) k37 (fun _ h9 => h9) rfl dX5_statement_44 ?_
    refine lv_aload_n hx hb dX5_statement_47 rfl (lv_at hl 1 rfl) ?_
    refine va_get (D := D) (ci := 5) (v := .int (M 16 6)) (C := RX5) (T := TX5) (N := 27) hx hb hts hw5 hown hK hP 0 cM_at0 rfl 18 (by decide) k101 (fun _ h9 => h9) rfl dX5_statement_48 ?_
    refine lv_iload_n hx hb dX5_statement_51 rfl (lv_at hl 0 rfl) ?_
    obtain ⟨c_3, hf⟩ := gi_e hf
    refine va_iast hx hb hK hP hD hS 10 0 cM_at10 rfl c_3 dX5_statement_52 (fun H locs hP hD hS => ?_)
    obtain ⟨h_4, eh_4, hf⟩ := nq_e hf
    rw [cM_su10, ← eh_4] at hP hD
    refine lv_aload_n hx hb dX5_statement_53 rfl (lv_at hl 1 rfl) ?_
    refine va_get (D := D) (ci := 5) (v := .ref (A 11)) (C := RX5) (T := TX5) (N := 27) hx hb hts hw5 hown hK hP 0 cM_at0 rfl 14 (by decide) k40 (fun _ h9 => h9) rfl dX5_statement_54 ?_
    refine lv_aload_n hx hb dX5_statement_57 rfl (lv_at hl 1 rfl) ?_
    refine va_get (D := D) (ci := 5) (v := .int (h_4 16 6)) (C := RX5) (T := TX5) (N := 27) hx hb hts hw5 hown hK hP 0 cM_at0 rfl 18 (by decide) k101 (fun _ h9 => h9) rfl dX5_statement_58 ?_
    refine lv_aload_n hx hb dX5_statement_61 rfl (lv_at hl 1 rfl) ?_
    refine va_get (D := D) (ci := 5) (v := .int (h_4 16 5)) (C := RX5) (T := TX5) (N := 27) hx hb hts hw5 hown hK hP 0 cM_at0 rfl 17 (by decide) k79 (fun _ h9 => h9) rfl dX5_statement_62 ?_
    obtain ⟨c_5, hf⟩ := gi_e hf
    refine va_iast hx hb hK hP hD hS 11 0 cM_at11 rfl c_5 dX5_statement_65 (fun H locs hP hD hS => ?_)
    obtain ⟨h_6, eh_6, hf⟩ := nq_e hf
    rw [cM_su11, ← eh_6] at hP hD
    refine lv_aload_n hx hb dX5_statement_66 rfl (lv_at hl 1 rfl) ?_
    refine lv_dup hx hb dX5_statement_67 rfl ?_
    refine va_get (D := D) (ci := 5) (v := .int (h_6 16 5)) (C := RX5) (T := TX5) (N := 27) hx hb hts hw5 hown hK hP 0 cM_at0 rfl 17 (by decide) k79 (fun _ h9 => h9) rfl dX5_statement_68 ?_
    refine lv_iconst (v := 1) hx hb dX5_statement_71 (by decide) ?_
    refine lv_iadd hx hb dX5_statement_72 ?_
    refine va_put (D := D) (ci := 5) (v := .int ((h_6 16 5) + (1 : Int32))) (ty := .int) (C := RX5) (T := TX5) (N := 27) hx hb hts hw5 tyX5 tyX5_ok nmX5 hown hK hP hD hS 0 cM_at0 rfl 17 (by decide) k79 (fun _ h9 => h9) rfl (tyX5_ok 17 (by decide)) rfl rfl (Nat.le_of_ble_eq_true rfl) dX5_statement_73 (fun H locs hP hD hS => ?_)
    obtain ⟨h_7, eh_7, hf⟩ := nq_e hf
    rw [cM_sc0_17, ← eh_7] at hP hD
    refine lv_aload_n hx hb dX5_statement_76 rfl (lv_at hl 1 rfl) ?_
    refine lv_iload_n hx hb dX5_statement_77 rfl (lv_at hl 0 rfl) ?_
    refine lv_iconst (v := 4) hx hb dX5_statement_78 (by decide) ?_
    refine lv_aload_n hx hb dX5_statement_79 rfl (lv_at hl 1 rfl) ?_
    refine va_get (D := D) (ci := 5) (v := .int (h_7 16 6)) (C := RX5) (T := TX5) (N := 27) hx hb hts hw5 hown hK hP 0 cM_at0 rfl 18 (by decide) k101 (fun _ h9 => h9) rfl dX5_statement_80 ?_
    refine lv_imul hx hb dX5_statement_83 ?_
    obtain ⟨a_8, ha_8, hf⟩ := bd_e hf
    refine Ct.callV (As := [.int a_1, .int ((4 : Int32) * (h_7 16 6))]) (rest := []) (st1 := [.int a_8.1]) (c_X5_readsAll l D cI A h_7 a_1 ((4 : Int32) * (h_7 16 6)) a_8 ha_8) hx hb hml hown hts (cwV 2 hts gX5_statement_X5_readsAll rfl rfl rfl hd_X5_readsAll ⟨Nat.le_of_ble_eq_true rfl, Nat.le_of_ble_eq_true rfl⟩) (va_recv hK hP (ci := 5) (q0 := 0) rfl cM_at0) (Ln.id rfl) hA hK hP hD hS rfl hl.1 rfl rfl (Nat.le_of_ble_eq_true rfl) dX5_statement_84 (fun H locs hP hD hS => ?_)
    replace hP : va_P D vwCl (cM cI A a_8.2) H := hP
    replace hD : va_D AA (cM cI A a_8.2) := hD
    refine lv_if_eq (tgt := 99) hx hb dX5_statement_87 (by decide) (fun c_9 => ?_) (fun c_9 => ?_)
    · replace hf := if_t c_9 hf
      refine lv_iconst (v := 0) hx hb dX5_statement_99 (by decide) ?_
      exact hend ((0 : Int32), a_8.2) H locs _ _ hf hP hS dX5_statement_100
    · replace hf := if_f c_9 hf
      refine lv_aload_n hx hb dX5_statement_90 rfl (lv_at hl 1 rfl) ?_
      obtain ⟨a_10, ha_10, hf⟩ := bd_e hf
      refine Ct.callV (As := []) (rest := []) (st1 := [.int a_10]) (c_X5_next l D cI A a_8.2 a_10 ha_10) hx hb hml hown hts (cwV 0 hts gX5_statement_X5_next rfl rfl rfl hd_X5_next ⟨Nat.le_of_ble_eq_true rfl, Nat.le_of_ble_eq_true rfl⟩) (va_recv hK hP (ci := 5) (q0 := 0) rfl cM_at0) (Ln.id rfl) hA hK hP hD hS rfl hl.1 rfl rfl (Nat.le_of_ble_eq_true rfl) dX5_statement_91 (fun H locs hP hD hS => ?_)
      refine lv_bipush (v := 59) hx hb dX5_statement_94 (by decide +kernel) ?_
      refine lv_icmp_eq (tgt := 101) hx hb dX5_statement_96 (by decide) (fun c_11 => ?_) (fun c_11 => ?_)
      · replace hf := if_t c_11 hf
        refine lv_aload_n hx hb dX5_statement_101 rfl (lv_at hl 1 rfl) ?_
        refine lv_dup hx hb dX5_statement_102 rfl ?_
        refine va_get (D := D) (ci := 5) (v := .int (a_8.2 16 5)) (C := RX5) (T := TX5) (N := 27) hx hb hts hw5 hown hK hP 0 cM_at0 rfl 17 (by decide) k79 (fun _ h9 => h9) rfl dX5_statement_103 ?_
        refine lv_iconst (v := 1) hx hb dX5_statement_106 (by decide) ?_
        refine lv_iadd hx hb dX5_statement_107 ?_
        refine va_put (D := D) (ci := 5) (v := .int ((a_8.2 16 5) + (1 : Int32))) (ty := .int) (C := RX5) (T := TX5) (N := 27) hx hb hts hw5 tyX5 tyX5_ok nmX5 hown hK hP hD hS 0 cM_at0 rfl 17 (by decide) k79 (fun _ h9 => h9) rfl (tyX5_ok 17 (by decide)) rfl rfl (Nat.le_of_ble_eq_true rfl) dX5_statement_108 (fun H locs hP hD hS => ?_)
        obtain ⟨h_12, eh_12, hf⟩ := nq_e hf
        rw [cM_sc0_17, ← eh_12] at hP hD
        refine lv_iconst (v := 1) hx hb dX5_statement_111 (by decide) ?_
        exact hend ((1 : Int32), h_12) H locs _ _ hf hP hS dX5_statement_112
      · replace hf := if_f c_11 hf
        refine lv_iconst (v := 0) hx hb dX5_statement_99 (by decide) ?_
        exact hend ((0 : Int32), a_8.2) H locs _ _ hf hP hS dX5_statement_100
  · replace hf := if_f c_2 hf
    refine lv_iload_n hx hb dX5_statement_11 rfl (lv_at hl 0 rfl) ?_
    refine lv_bipush (v := 109) hx hb dX5_statement_12 (by decide +kernel) ?_
    refine lv_icmp_eq (tgt := 43) hx hb dX5_statement_14 (by decide) (fun c_13 => ?_) (fun c_13 => ?_)
    · replace hf := if_t c_13 hf
      refine lv_aload_n hx hb dX5_statement_43 rfl (lv_at hl 1 rfl) ?_
      refine va_get (D := D) (ci := 5) (v := .ref (A 10)) (C := RX5) (T := TX5) (N := 27) hx hb hts hw5 hown hK hP 0 cM_at0 rfl 13 (by decide) k37 (fun _ h9 => h9) rfl dX5_statement_44 ?_
      refine lv_aload_n hx hb dX5_statement_47 rfl (lv_at hl 1 rfl) ?_
      refine va_get (D := D) (ci := 5) (v := .int (M 16 6)) (C := RX5) (T := TX5) (N := 27) hx hb hts hw5 hown hK hP 0 cM_at0 rfl 18 (by decide) k101 (fun _ h9 => h9) rfl dX5_statement_48 ?_
      refine lv_iload_n hx hb dX5_statement_51 rfl (lv_at hl 0 rfl) ?_
      obtain ⟨c_14, hf⟩ := gi_e hf
      refine va_iast hx hb hK hP hD hS 10 0 cM_at10 rfl c_14 dX5_statement_52 (fun H locs hP hD hS => ?_)
      obtain ⟨h_15, eh_15, hf⟩ := nq_e hf
      rw [cM_su10, ← eh_15] at hP hD
      refine lv_aload_n hx hb dX5_statement_53 rfl (lv_at hl 1 rfl) ?_
      refine va_get (D := D) (ci := 5) (v := .ref (A 11)) (C := RX5) (T := TX5) (N := 27) hx hb hts hw5 hown hK hP 0 cM_at0 rfl 14 (by decide) k40 (fun _ h9 => h9) rfl dX5_statement_54 ?_
      refine lv_aload_n hx hb dX5_statement_57 rfl (lv_at hl 1 rfl) ?_
      refine va_get (D := D) (ci := 5) (v := .int (h_15 16 6)) (C := RX5) (T := TX5) (N := 27) hx hb hts hw5 hown hK hP 0 cM_at0 rfl 18 (by decide) k101 (fun _ h9 => h9) rfl dX5_statement_58 ?_
      refine lv_aload_n hx hb dX5_statement_61 rfl (lv_at hl 1 rfl) ?_
      refine va_get (D := D) (ci := 5) (v := .int (h_15 16 5)) (C := RX5) (T := TX5) (N := 27) hx hb hts hw5 hown hK hP 0 cM_at0 rfl 17 (by decide) k79 (fun _ h9 => h9) rfl dX5_statement_62 ?_
      obtain ⟨c_16, hf⟩ := gi_e hf
      refine va_iast hx hb hK hP hD hS 11 0 cM_at11 rfl c_16 dX5_statement_65 (fun H locs hP hD hS => ?_)
      obtain ⟨h_17, eh_17, hf⟩ := nq_e hf
      rw [cM_su11, ← eh_17] at hP hD
      refine lv_aload_n hx hb dX5_statement_66 rfl (lv_at hl 1 rfl) ?_
      refine lv_dup hx hb dX5_statement_67 rfl ?_
      refine va_get (D := D) (ci := 5) (v := .int (h_17 16 5)) (C := RX5) (T := TX5) (N := 27) hx hb hts hw5 hown hK hP 0 cM_at0 rfl 17 (by decide) k79 (fun _ h9 => h9) rfl dX5_statement_68 ?_
      refine lv_iconst (v := 1) hx hb dX5_statement_71 (by decide) ?_
      refine lv_iadd hx hb dX5_statement_72 ?_
      refine va_put (D := D) (ci := 5) (v := .int ((h_17 16 5) + (1 : Int32))) (ty := .int) (C := RX5) (T := TX5) (N := 27) hx hb hts hw5 tyX5 tyX5_ok nmX5 hown hK hP hD hS 0 cM_at0 rfl 17 (by decide) k79 (fun _ h9 => h9) rfl (tyX5_ok 17 (by decide)) rfl rfl (Nat.le_of_ble_eq_true rfl) dX5_statement_73 (fun H locs hP hD hS => ?_)
      obtain ⟨h_18, eh_18, hf⟩ := nq_e hf
      rw [cM_sc0_17, ← eh_18] at hP hD
      refine lv_aload_n hx hb dX5_statement_76 rfl (lv_at hl 1 rfl) ?_
      refine lv_iload_n hx hb dX5_statement_77 rfl (lv_at hl 0 rfl) ?_
      refine lv_iconst (v := 4) hx hb dX5_statement_78 (by decide) ?_
      refine lv_aload_n hx hb dX5_statement_79 rfl (lv_at hl 1 rfl) ?_
      refine va_get (D := D) (ci := 5) (v := .int (h_18 16 6)) (C := RX5) (T := TX5) (N := 27) hx hb hts hw5 hown hK hP 0 cM_at0 rfl 18 (by decide) k101 (fun _ h9 => h9) rfl dX5_statement_80 ?_
      refine lv_imul hx hb dX5_statement_83 ?_
      obtain ⟨a_19, ha_19, hf⟩ := bd_e hf
      refine Ct.callV (As := [.int a_1, .int ((4 : Int32) * (h_18 16 6))]) (rest := []) (st1 := [.int a_19.1]) (c_X5_readsAll l D cI A h_18 a_1 ((4 : Int32) * (h_18 16 6)) a_19 ha_19) hx hb hml hown hts (cwV 2 hts gX5_statement_X5_readsAll rfl rfl rfl hd_X5_readsAll ⟨Nat.le_of_ble_eq_true rfl, Nat.le_of_ble_eq_true rfl⟩) (va_recv hK hP (ci := 5) (q0 := 0) rfl cM_at0) (Ln.id rfl) hA hK hP hD hS rfl hl.1 rfl rfl (Nat.le_of_ble_eq_true rfl) dX5_statement_84 (fun H locs hP hD hS => ?_)
      replace hP : va_P D vwCl (cM cI A a_19.2) H := hP
      replace hD : va_D AA (cM cI A a_19.2) := hD
      refine lv_if_eq (tgt := 99) hx hb dX5_statement_87 (by decide) (fun c_20 => ?_) (fun c_20 => ?_)
      · replace hf := if_t c_20 hf
        refine lv_iconst (v := 0) hx hb dX5_statement_99 (by decide) ?_
        exact hend ((0 : Int32), a_19.2) H locs _ _ hf hP hS dX5_statement_100
      · replace hf := if_f c_20 hf
        refine lv_aload_n hx hb dX5_statement_90 rfl (lv_at hl 1 rfl) ?_
        obtain ⟨a_21, ha_21, hf⟩ := bd_e hf
        refine Ct.callV (As := []) (rest := []) (st1 := [.int a_21]) (c_X5_next l D cI A a_19.2 a_21 ha_21) hx hb hml hown hts (cwV 0 hts gX5_statement_X5_next rfl rfl rfl hd_X5_next ⟨Nat.le_of_ble_eq_true rfl, Nat.le_of_ble_eq_true rfl⟩) (va_recv hK hP (ci := 5) (q0 := 0) rfl cM_at0) (Ln.id rfl) hA hK hP hD hS rfl hl.1 rfl rfl (Nat.le_of_ble_eq_true rfl) dX5_statement_91 (fun H locs hP hD hS => ?_)
        refine lv_bipush (v := 59) hx hb dX5_statement_94 (by decide +kernel) ?_
        refine lv_icmp_eq (tgt := 101) hx hb dX5_statement_96 (by decide) (fun c_22 => ?_) (fun c_22 => ?_)
        · replace hf := if_t c_22 hf
          refine lv_aload_n hx hb dX5_statement_101 rfl (lv_at hl 1 rfl) ?_
          refine lv_dup hx hb dX5_statement_102 rfl ?_
          refine va_get (D := D) (ci := 5) (v := .int (a_19.2 16 5)) (C := RX5) (T := TX5) (N := 27) hx hb hts hw5 hown hK hP 0 cM_at0 rfl 17 (by decide) k79 (fun _ h9 => h9) rfl dX5_statement_103 ?_
          refine lv_iconst (v := 1) hx hb dX5_statement_106 (by decide) ?_
          refine lv_iadd hx hb dX5_statement_107 ?_
          refine va_put (D := D) (ci := 5) (v := .int ((a_19.2 16 5) + (1 : Int32))) (ty := .int) (C := RX5) (T := TX5) (N := 27) hx hb hts hw5 tyX5 tyX5_ok nmX5 hown hK hP hD hS 0 cM_at0 rfl 17 (by decide) k79 (fun _ h9 => h9) rfl (tyX5_ok 17 (by decide)) rfl rfl (Nat.le_of_ble_eq_true rfl) dX5_statement_108 (fun H locs hP hD hS => ?_)
          obtain ⟨h_23, eh_23, hf⟩ := nq_e hf
          rw [cM_sc0_17, ← eh_23] at hP hD
          refine lv_iconst (v := 1) hx hb dX5_statement_111 (by decide) ?_
          exact hend ((1 : Int32), h_23) H locs _ _ hf hP hS dX5_statement_112
        · replace hf := if_f c_22 hf
          refine lv_iconst (v := 0) hx hb dX5_statement_99 (by decide) ?_
          exact hend ((0 : Int32), a_19.2) H locs _ _ hf hP hS dX5_statement_100
    · replace hf := if_f c_13 hf
      refine lv_iload_n hx hb dX5_statement_17 rfl (lv_at hl 0 rfl) ?_
      refine lv_bipush (v := 116) hx hb dX5_statement_18 (by decide +kernel) ?_
      refine lv_icmp_eq (tgt := 43) hx hb dX5_statement_20 (by decide) (fun c_24 => ?_) (fun c_24 => ?_)
      · replace hf := if_t c_24 hf
        refine lv_aload_n hx hb dX5_statement_43 rfl (lv_at hl 1 rfl) ?_
        refine va_get (D := D) (ci := 5) (v := .ref (A 10)) (C := RX5) (T := TX5) (N := 27) hx hb hts hw5 hown hK hP 0 cM_at0 rfl 13 (by decide) k37 (fun _ h9 => h9) rfl dX5_statement_44 ?_
        refine lv_aload_n hx hb dX5_statement_47 rfl (lv_at hl 1 rfl) ?_
        refine va_get (D := D) (ci := 5) (v := .int (M 16 6)) (C := RX5) (T := TX5) (N := 27) hx hb hts hw5 hown hK hP 0 cM_at0 rfl 18 (by decide) k101 (fun _ h9 => h9) rfl dX5_statement_48 ?_
        refine lv_iload_n hx hb dX5_statement_51 rfl (lv_at hl 0 rfl) ?_
        obtain ⟨c_25, hf⟩ := gi_e hf
        refine va_iast hx hb hK hP hD hS 10 0 cM_at10 rfl c_25 dX5_statement_52 (fun H locs hP hD hS => ?_)
        obtain ⟨h_26, eh_26, hf⟩ := nq_e hf
        rw [cM_su10, ← eh_26] at hP hD
        refine lv_aload_n hx hb dX5_statement_53 rfl (lv_at hl 1 rfl) ?_
        refine va_get (D := D) (ci := 5) (v := .ref (A 11)) (C := RX5) (T := TX5) (N := 27) hx hb hts hw5 hown hK hP 0 cM_at0 rfl 14 (by decide) k40 (fun _ h9 => h9) rfl dX5_statement_54 ?_
        refine lv_aload_n hx hb dX5_statement_57 rfl (lv_at hl 1 rfl) ?_
        refine va_get (D := D) (ci := 5) (v := .int (h_26 16 6)) (C := RX5) (T := TX5) (N := 27) hx hb hts hw5 hown hK hP 0 cM_at0 rfl 18 (by decide) k101 (fun _ h9 => h9) rfl dX5_statement_58 ?_
        refine lv_aload_n hx hb dX5_statement_61 rfl (lv_at hl 1 rfl) ?_
        refine va_get (D := D) (ci := 5) (v := .int (h_26 16 5)) (C := RX5) (T := TX5) (N := 27) hx hb hts hw5 hown hK hP 0 cM_at0 rfl 17 (by decide) k79 (fun _ h9 => h9) rfl dX5_statement_62 ?_
        obtain ⟨c_27, hf⟩ := gi_e hf
        refine va_iast hx hb hK hP hD hS 11 0 cM_at11 rfl c_27 dX5_statement_65 (fun H locs hP hD hS => ?_)
        obtain ⟨h_28, eh_28, hf⟩ := nq_e hf
        rw [cM_su11, ← eh_28] at hP hD
        refine lv_aload_n hx hb dX5_statement_66 rfl (lv_at hl 1 rfl) ?_
        refine lv_dup hx hb dX5_statement_67 rfl ?_
        refine va_get (D := D) (ci := 5) (v := .int (h_28 16 5)) (C := RX5) (T := TX5) (N := 27) hx hb hts hw5 hown hK hP 0 cM_at0 rfl 17 (by decide) k79 (fun _ h9 => h9) rfl dX5_statement_68 ?_
        refine lv_iconst (v := 1) hx hb dX5_statement_71 (by decide) ?_
        refine lv_iadd hx hb dX5_statement_72 ?_
        refine va_put (D := D) (ci := 5) (v := .int ((h_28 16 5) + (1 : Int32))) (ty := .int) (C := RX5) (T := TX5) (N := 27) hx hb hts hw5 tyX5 tyX5_ok nmX5 hown hK hP hD hS 0 cM_at0 rfl 17 (by decide) k79 (fun _ h9 => h9) rfl (tyX5_ok 17 (by decide)) rfl rfl (Nat.le_of_ble_eq_true rfl) dX5_statement_73 (fun H locs hP hD hS => ?_)
        obtain ⟨h_29, eh_29, hf⟩ := nq_e hf
        rw [cM_sc0_17, ← eh_29] at hP hD
        refine lv_aload_n hx hb dX5_statement_76 rfl (lv_at hl 1 rfl) ?_
        refine lv_iload_n hx hb dX5_statement_77 rfl (lv_at hl 0 rfl) ?_
        refine lv_iconst (v := 4) hx hb dX5_statement_78 (by decide) ?_
        refine lv_aload_n hx hb dX5_statement_79 rfl (lv_at hl 1 rfl) ?_
        refine va_get (D := D) (ci := 5) (v := .int (h_29 16 6)) (C := RX5) (T := TX5) (N := 27) hx hb hts hw5 hown hK hP 0 cM_at0 rfl 18 (by decide) k101 (fun _ h9 => h9) rfl dX5_statement_80 ?_
        refine lv_imul hx hb dX5_statement_83 ?_
        obtain ⟨a_30, ha_30, hf⟩ := bd_e hf
        refine Ct.callV (As := [.int a_1, .int ((4 : Int32) * (h_29 16 6))]) (rest := []) (st1 := [.int a_30.1]) (c_X5_readsAll l D cI A h_29 a_1 ((4 : Int32) * (h_29 16 6)) a_30 ha_30) hx hb hml hown hts (cwV 2 hts gX5_statement_X5_readsAll rfl rfl rfl hd_X5_readsAll ⟨Nat.le_of_ble_eq_true rfl, Nat.le_of_ble_eq_true rfl⟩) (va_recv hK hP (ci := 5) (q0 := 0) rfl cM_at0) (Ln.id rfl) hA hK hP hD hS rfl hl.1 rfl rfl (Nat.le_of_ble_eq_true rfl) dX5_statement_84 (fun H locs hP hD hS => ?_)
        replace hP : va_P D vwCl (cM cI A a_30.2) H := hP
        replace hD : va_D AA (cM cI A a_30.2) := hD
        refine lv_if_eq (tgt := 99) hx hb dX5_statement_87 (by decide) (fun c_31 => ?_) (fun c_31 => ?_)
        · replace hf := if_t c_31 hf
          refine lv_iconst (v := 0) hx hb dX5_statement_99 (by decide) ?_
          exact hend ((0 : Int32), a_30.2) H locs _ _ hf hP hS dX5_statement_100
        · replace hf := if_f c_31 hf
          refine lv_aload_n hx hb dX5_statement_90 rfl (lv_at hl 1 rfl) ?_
          obtain ⟨a_32, ha_32, hf⟩ := bd_e hf
          refine Ct.callV (As := []) (rest := []) (st1 := [.int a_32]) (c_X5_next l D cI A a_30.2 a_32 ha_32) hx hb hml hown hts (cwV 0 hts gX5_statement_X5_next rfl rfl rfl hd_X5_next ⟨Nat.le_of_ble_eq_true rfl, Nat.le_of_ble_eq_true rfl⟩) (va_recv hK hP (ci := 5) (q0 := 0) rfl cM_at0) (Ln.id rfl) hA hK hP hD hS rfl hl.1 rfl rfl (Nat.le_of_ble_eq_true rfl) dX5_statement_91 (fun H locs hP hD hS => ?_)
          refine lv_bipush (v := 59) hx hb dX5_statement_94 (by decide +kernel) ?_
          refine lv_icmp_eq (tgt := 101) hx hb dX5_statement_96 (by decide) (fun c_33 => ?_) (fun c_33 => ?_)
          · replace hf := if_t c_33 hf
            refine lv_aload_n hx hb dX5_statement_101 rfl (lv_at hl 1 rfl) ?_
            refine lv_dup hx hb dX5_statement_102 rfl ?_
            refine va_get (D := D) (ci := 5) (v := .int (a_30.2 16 5)) (C := RX5) (T := TX5) (N := 27) hx hb hts hw5 hown hK hP 0 cM_at0 rfl 17 (by decide) k79 (fun _ h9 => h9) rfl dX5_statement_103 ?_
            refine lv_iconst (v := 1) hx hb dX5_statement_106 (by decide) ?_
            refine lv_iadd hx hb dX5_statement_107 ?_
            refine va_put (D := D) (ci := 5) (v := .int ((a_30.2 16 5) + (1 : Int32))) (ty := .int) (C := RX5) (T := TX5) (N := 27) hx hb hts hw5 tyX5 tyX5_ok nmX5 hown hK hP hD hS 0 cM_at0 rfl 17 (by decide) k79 (fun _ h9 => h9) rfl (tyX5_ok 17 (by decide)) rfl rfl (Nat.le_of_ble_eq_true rfl) dX5_statement_108 (fun H locs hP hD hS => ?_)
            obtain ⟨h_34, eh_34, hf⟩ := nq_e hf
            rw [cM_sc0_17, ← eh_34] at hP hD
            refine lv_iconst (v := 1) hx hb dX5_statement_111 (by decide) ?_
            exact hend ((1 : Int32), h_34) H locs _ _ hf hP hS dX5_statement_112
          · replace hf := if_f c_33 hf
            refine lv_iconst (v := 0) hx hb dX5_statement_99 (by decide) ?_
            exact hend ((0 : Int32), a_30.2) H locs _ _ hf hP hS dX5_statement_100
      · replace hf := if_f c_24 hf
        refine lv_iload_n hx hb dX5_statement_23 rfl (lv_at hl 0 rfl) ?_
        refine lv_bipush (v := 98) hx hb dX5_statement_24 (by decide +kernel) ?_
        refine lv_icmp_eq (tgt := 43) hx hb dX5_statement_26 (by decide) (fun c_35 => ?_) (fun c_35 => ?_)
        · replace hf := if_t c_35 hf
          refine lv_aload_n hx hb dX5_statement_43 rfl (lv_at hl 1 rfl) ?_
          refine va_get (D := D) (ci := 5) (v := .ref (A 10)) (C := RX5) (T := TX5) (N := 27) hx hb hts hw5 hown hK hP 0 cM_at0 rfl 13 (by decide) k37 (fun _ h9 => h9) rfl dX5_statement_44 ?_
          refine lv_aload_n hx hb dX5_statement_47 rfl (lv_at hl 1 rfl) ?_
          refine va_get (D := D) (ci := 5) (v := .int (M 16 6)) (C := RX5) (T := TX5) (N := 27) hx hb hts hw5 hown hK hP 0 cM_at0 rfl 18 (by decide) k101 (fun _ h9 => h9) rfl dX5_statement_48 ?_
          refine lv_iload_n hx hb dX5_statement_51 rfl (lv_at hl 0 rfl) ?_
          obtain ⟨c_36, hf⟩ := gi_e hf
          refine va_iast hx hb hK hP hD hS 10 0 cM_at10 rfl c_36 dX5_statement_52 (fun H locs hP hD hS => ?_)
          obtain ⟨h_37, eh_37, hf⟩ := nq_e hf
          rw [cM_su10, ← eh_37] at hP hD
          refine lv_aload_n hx hb dX5_statement_53 rfl (lv_at hl 1 rfl) ?_
          refine va_get (D := D) (ci := 5) (v := .ref (A 11)) (C := RX5) (T := TX5) (N := 27) hx hb hts hw5 hown hK hP 0 cM_at0 rfl 14 (by decide) k40 (fun _ h9 => h9) rfl dX5_statement_54 ?_
          refine lv_aload_n hx hb dX5_statement_57 rfl (lv_at hl 1 rfl) ?_
          refine va_get (D := D) (ci := 5) (v := .int (h_37 16 6)) (C := RX5) (T := TX5) (N := 27) hx hb hts hw5 hown hK hP 0 cM_at0 rfl 18 (by decide) k101 (fun _ h9 => h9) rfl dX5_statement_58 ?_
          refine lv_aload_n hx hb dX5_statement_61 rfl (lv_at hl 1 rfl) ?_
          refine va_get (D := D) (ci := 5) (v := .int (h_37 16 5)) (C := RX5) (T := TX5) (N := 27) hx hb hts hw5 hown hK hP 0 cM_at0 rfl 17 (by decide) k79 (fun _ h9 => h9) rfl dX5_statement_62 ?_
          obtain ⟨c_38, hf⟩ := gi_e hf
          refine va_iast hx hb hK hP hD hS 11 0 cM_at11 rfl c_38 dX5_statement_65 (fun H locs hP hD hS => ?_)
          obtain ⟨h_39, eh_39, hf⟩ := nq_e hf
          rw [cM_su11, ← eh_39] at hP hD
          refine lv_aload_n hx hb dX5_statement_66 rfl (lv_at hl 1 rfl) ?_
          refine lv_dup hx hb dX5_statement_67 rfl ?_
          refine va_get (D := D) (ci := 5) (v := .int (h_39 16 5)) (C := RX5) (T := TX5) (N := 27) hx hb hts hw5 hown hK hP 0 cM_at0 rfl 17 (by decide) k79 (fun _ h9 => h9) rfl dX5_statement_68 ?_
          refine lv_iconst (v := 1) hx hb dX5_statement_71 (by decide) ?_
          refine lv_iadd hx hb dX5_statement_72 ?_
          refine va_put (D := D) (ci := 5) (v := .int ((h_39 16 5) + (1 : Int32))) (ty := .int) (C := RX5) (T := TX5) (N := 27) hx hb hts hw5 tyX5 tyX5_ok nmX5 hown hK hP hD hS 0 cM_at0 rfl 17 (by decide) k79 (fun _ h9 => h9) rfl (tyX5_ok 17 (by decide)) rfl rfl (Nat.le_of_ble_eq_true rfl) dX5_statement_73 (fun H locs hP hD hS => ?_)
          obtain ⟨h_40, eh_40, hf⟩ := nq_e hf
          rw [cM_sc0_17, ← eh_40] at hP hD
          refine lv_aload_n hx hb dX5_statement_76 rfl (lv_at hl 1 rfl) ?_
          refine lv_iload_n hx hb dX5_statement_77 rfl (lv_at hl 0 rfl) ?_
          refine lv_iconst (v := 4) hx hb dX5_statement_78 (by decide) ?_
          refine lv_aload_n hx hb dX5_statement_79 rfl (lv_at hl 1 rfl) ?_
          refine va_get (D := D) (ci := 5) (v := .int (h_40 16 6)) (C := RX5) (T := TX5) (N := 27) hx hb hts hw5 hown hK hP 0 cM_at0 rfl 18 (by decide) k101 (fun _ h9 => h9) rfl dX5_statement_80 ?_
          refine lv_imul hx hb dX5_statement_83 ?_
          obtain ⟨a_41, ha_41, hf⟩ := bd_e hf
          refine Ct.callV (As := [.int a_1, .int ((4 : Int32) * (h_40 16 6))]) (rest := []) (st1 := [.int a_41.1]) (c_X5_readsAll l D cI A h_40 a_1 ((4 : Int32) * (h_40 16 6)) a_41 ha_41) hx hb hml hown hts (cwV 2 hts gX5_statement_X5_readsAll rfl rfl rfl hd_X5_readsAll ⟨Nat.le_of_ble_eq_true rfl, Nat.le_of_ble_eq_true rfl⟩) (va_recv hK hP (ci := 5) (q0 := 0) rfl cM_at0) (Ln.id rfl) hA hK hP hD hS rfl hl.1 rfl rfl (Nat.le_of_ble_eq_true rfl) dX5_statement_84 (fun H locs hP hD hS => ?_)
          replace hP : va_P D vwCl (cM cI A a_41.2) H := hP
          replace hD : va_D AA (cM cI A a_41.2) := hD
          refine lv_if_eq (tgt := 99) hx hb dX5_statement_87 (by decide) (fun c_42 => ?_) (fun c_42 => ?_)
          · replace hf := if_t c_42 hf
            refine lv_iconst (v := 0) hx hb dX5_statement_99 (by decide) ?_
            exact hend ((0 : Int32), a_41.2) H locs _ _ hf hP hS dX5_statement_100
          · replace hf := if_f c_42 hf
            refine lv_aload_n hx hb dX5_statement_90 rfl (lv_at hl 1 rfl) ?_
            obtain ⟨a_43, ha_43, hf⟩ := bd_e hf
            refine Ct.callV (As := []) (rest := []) (st1 := [.int a_43]) (c_X5_next l D cI A a_41.2 a_43 ha_43) hx hb hml hown hts (cwV 0 hts gX5_statement_X5_next rfl rfl rfl hd_X5_next ⟨Nat.le_of_ble_eq_true rfl, Nat.le_of_ble_eq_true rfl⟩) (va_recv hK hP (ci := 5) (q0 := 0) rfl cM_at0) (Ln.id rfl) hA hK hP hD hS rfl hl.1 rfl rfl (Nat.le_of_ble_eq_true rfl) dX5_statement_91 (fun H locs hP hD hS => ?_)
            refine lv_bipush (v := 59) hx hb dX5_statement_94 (by decide +kernel) ?_
            refine lv_icmp_eq (tgt := 101) hx hb dX5_statement_96 (by decide) (fun c_44 => ?_) (fun c_44 => ?_)
            · replace hf := if_t c_44 hf
              refine lv_aload_n hx hb dX5_statement_101 rfl (lv_at hl 1 rfl) ?_
              refine lv_dup hx hb dX5_statement_102 rfl ?_
              refine va_get (D := D) (ci := 5) (v := .int (a_41.2 16 5)) (C := RX5) (T := TX5) (N := 27) hx hb hts hw5 hown hK hP 0 cM_at0 rfl 17 (by decide) k79 (fun _ h9 => h9) rfl dX5_statement_103 ?_
              refine lv_iconst (v := 1) hx hb dX5_statement_106 (by decide) ?_
              refine lv_iadd hx hb dX5_statement_107 ?_
              refine va_put (D := D) (ci := 5) (v := .int ((a_41.2 16 5) + (1 : Int32))) (ty := .int) (C := RX5) (T := TX5) (N := 27) hx hb hts hw5 tyX5 tyX5_ok nmX5 hown hK hP hD hS 0 cM_at0 rfl 17 (by decide) k79 (fun _ h9 => h9) rfl (tyX5_ok 17 (by decide)) rfl rfl (Nat.le_of_ble_eq_true rfl) dX5_statement_108 (fun H locs hP hD hS => ?_)
              obtain ⟨h_45, eh_45, hf⟩ := nq_e hf
              rw [cM_sc0_17, ← eh_45] at hP hD
              refine lv_iconst (v := 1) hx hb dX5_statement_111 (by decide) ?_
              exact hend ((1 : Int32), h_45) H locs _ _ hf hP hS dX5_statement_112
            · replace hf := if_f c_44 hf
              refine lv_iconst (v := 0) hx hb dX5_statement_99 (by decide) ?_
              exact hend ((0 : Int32), a_41.2) H locs _ _ hf hP hS dX5_statement_100
        · replace hf := if_f c_35 hf
          refine lv_iload_n hx hb dX5_statement_29 rfl (lv_at hl 0 rfl) ?_
          refine lv_bipush (v := 118) hx hb dX5_statement_30 (by decide +kernel) ?_
          refine lv_icmp_eq (tgt := 43) hx hb dX5_statement_32 (by decide) (fun c_46 => ?_) (fun c_46 => ?_)
          · replace hf := if_t c_46 hf
            refine lv_aload_n hx hb dX5_statement_43 rfl (lv_at hl 1 rfl) ?_
            refine va_get (D := D) (ci := 5) (v := .ref (A 10)) (C := RX5) (T := TX5) (N := 27) hx hb hts hw5 hown hK hP 0 cM_at0 rfl 13 (by decide) k37 (fun _ h9 => h9) rfl dX5_statement_44 ?_
            refine lv_aload_n hx hb dX5_statement_47 rfl (lv_at hl 1 rfl) ?_
            refine va_get (D := D) (ci := 5) (v := .int (M 16 6)) (C := RX5) (T := TX5) (N := 27) hx hb hts hw5 hown hK hP 0 cM_at0 rfl 18 (by decide) k101 (fun _ h9 => h9) rfl dX5_statement_48 ?_
            refine lv_iload_n hx hb dX5_statement_51 rfl (lv_at hl 0 rfl) ?_
            obtain ⟨c_47, hf⟩ := gi_e hf
            refine va_iast hx hb hK hP hD hS 10 0 cM_at10 rfl c_47 dX5_statement_52 (fun H locs hP hD hS => ?_)
            obtain ⟨h_48, eh_48, hf⟩ := nq_e hf
            rw [cM_su10, ← eh_48] at hP hD
            refine lv_aload_n hx hb dX5_statement_53 rfl (lv_at hl 1 rfl) ?_
            refine va_get (D := D) (ci := 5) (v := .ref (A 11)) (C := RX5) (T := TX5) (N := 27) hx hb hts hw5 hown hK hP 0 cM_at0 rfl 14 (by decide) k40 (fun _ h9 => h9) rfl dX5_statement_54 ?_
            refine lv_aload_n hx hb dX5_statement_57 rfl (lv_at hl 1 rfl) ?_
            refine va_get (D := D) (ci := 5) (v := .int (h_48 16 6)) (C := RX5) (T := TX5) (N := 27) hx hb hts hw5 hown hK hP 0 cM_at0 rfl 18 (by decide) k101 (fun _ h9 => h9) rfl dX5_statement_58 ?_
            refine lv_aload_n hx hb dX5_statement_61 rfl (lv_at hl 1 rfl) ?_
            refine va_get (D := D) (ci := 5) (v := .int (h_48 16 5)) (C := RX5) (T := TX5) (N := 27) hx hb hts hw5 hown hK hP 0 cM_at0 rfl 17 (by decide) k79 (fun _ h9 => h9) rfl dX5_statement_62 ?_
            obtain ⟨c_49, hf⟩ := gi_e hf
            refine va_iast hx hb hK hP hD hS 11 0 cM_at11 rfl c_49 dX5_statement_65 (fun H locs hP hD hS => ?_)
            obtain ⟨h_50, eh_50, hf⟩ := nq_e hf
            rw [cM_su11, ← eh_50] at hP hD
            refine lv_aload_n hx hb dX5_statement_66 rfl (lv_at hl 1 rfl) ?_
            refine lv_dup hx hb dX5_statement_67 rfl ?_
            refine va_get (D := D) (ci := 5) (v := .int (h_50 16 5)) (C := RX5) (T := TX5) (N := 27) hx hb hts hw5 hown hK hP 0 cM_at0 rfl 17 (by decide) k79 (fun _ h9 => h9) rfl dX5_statement_68 ?_
            refine lv_iconst (v := 1) hx hb dX5_statement_71 (by decide) ?_
            refine lv_iadd hx hb dX5_statement_72 ?_
            refine va_put (D := D) (ci := 5) (v := .int ((h_50 16 5) + (1 : Int32))) (ty := .int) (C := RX5) (T := TX5) (N := 27) hx hb hts hw5 tyX5 tyX5_ok nmX5 hown hK hP hD hS 0 cM_at0 rfl 17 (by decide) k79 (fun _ h9 => h9) rfl (tyX5_ok 17 (by decide)) rfl rfl (Nat.le_of_ble_eq_true rfl) dX5_statement_73 (fun H locs hP hD hS => ?_)
            obtain ⟨h_51, eh_51, hf⟩ := nq_e hf
            rw [cM_sc0_17, ← eh_51] at hP hD
            refine lv_aload_n hx hb dX5_statement_76 rfl (lv_at hl 1 rfl) ?_
            refine lv_iload_n hx hb dX5_statement_77 rfl (lv_at hl 0 rfl) ?_
            refine lv_iconst (v := 4) hx hb dX5_statement_78 (by decide) ?_
            refine lv_aload_n hx hb dX5_statement_79 rfl (lv_at hl 1 rfl) ?_
            refine va_get (D := D) (ci := 5) (v := .int (h_51 16 6)) (C := RX5) (T := TX5) (N := 27) hx hb hts hw5 hown hK hP 0 cM_at0 rfl 18 (by decide) k101 (fun _ h9 => h9) rfl dX5_statement_80 ?_
            refine lv_imul hx hb dX5_statement_83 ?_
            obtain ⟨a_52, ha_52, hf⟩ := bd_e hf
            refine Ct.callV (As := [.int a_1, .int ((4 : Int32) * (h_51 16 6))]) (rest := []) (st1 := [.int a_52.1]) (c_X5_readsAll l D cI A h_51 a_1 ((4 : Int32) * (h_51 16 6)) a_52 ha_52) hx hb hml hown hts (cwV 2 hts gX5_statement_X5_readsAll rfl rfl rfl hd_X5_readsAll ⟨Nat.le_of_ble_eq_true rfl, Nat.le_of_ble_eq_true rfl⟩) (va_recv hK hP (ci := 5) (q0 := 0) rfl cM_at0) (Ln.id rfl) hA hK hP hD hS rfl hl.1 rfl rfl (Nat.le_of_ble_eq_true rfl) dX5_statement_84 (fun H locs hP hD hS => ?_)
            replace hP : va_P D vwCl (cM cI A a_52.2) H := hP
            replace hD : va_D AA (cM cI A a_52.2) := hD
            refine lv_if_eq (tgt := 99) hx hb dX5_statement_87 (by decide) (fun c_53 => ?_) (fun c_53 => ?_)
            · replace hf := if_t c_53 hf
              refine lv_iconst (v := 0) hx hb dX5_statement_99 (by decide) ?_
              exact hend ((0 : Int32), a_52.2) H locs _ _ hf hP hS dX5_statement_100
            · replace hf := if_f c_53 hf
              refine lv_aload_n hx hb dX5_statement_90 rfl (lv_at hl 1 rfl) ?_
              obtain ⟨a_54, ha_54, hf⟩ := bd_e hf
              refine Ct.callV (As := []) (rest := []) (st1 := [.int a_54]) (c_X5_next l D cI A a_52.2 a_54 ha_54) hx hb hml hown hts (cwV 0 hts gX5_statement_X5_next rfl rfl rfl hd_X5_next ⟨Nat.le_of_ble_eq_true rfl, Nat.le_of_ble_eq_true rfl⟩) (va_recv hK hP (ci := 5) (q0 := 0) rfl cM_at0) (Ln.id rfl) hA hK hP hD hS rfl hl.1 rfl rfl (Nat.le_of_ble_eq_true rfl) dX5_statement_91 (fun H locs hP hD hS => ?_)
              refine lv_bipush (v := 59) hx hb dX5_statement_94 (by decide +kernel) ?_
              refine lv_icmp_eq (tgt := 101) hx hb dX5_statement_96 (by decide) (fun c_55 => ?_) (fun c_55 => ?_)
              · replace hf := if_t c_55 hf
                refine lv_aload_n hx hb dX5_statement_101 rfl (lv_at hl 1 rfl) ?_
                refine lv_dup hx hb dX5_statement_102 rfl ?_
                refine va_get (D := D) (ci := 5) (v := .int (a_52.2 16 5)) (C := RX5) (T := TX5) (N := 27) hx hb hts hw5 hown hK hP 0 cM_at0 rfl 17 (by decide) k79 (fun _ h9 => h9) rfl dX5_statement_103 ?_
                refine lv_iconst (v := 1) hx hb dX5_statement_106 (by decide) ?_
                refine lv_iadd hx hb dX5_statement_107 ?_
                refine va_put (D := D) (ci := 5) (v := .int ((a_52.2 16 5) + (1 : Int32))) (ty := .int) (C := RX5) (T := TX5) (N := 27) hx hb hts hw5 tyX5 tyX5_ok nmX5 hown hK hP hD hS 0 cM_at0 rfl 17 (by decide) k79 (fun _ h9 => h9) rfl (tyX5_ok 17 (by decide)) rfl rfl (Nat.le_of_ble_eq_true rfl) dX5_statement_108 (fun H locs hP hD hS => ?_)
                obtain ⟨h_56, eh_56, hf⟩ := nq_e hf
                rw [cM_sc0_17, ← eh_56] at hP hD
                refine lv_iconst (v := 1) hx hb dX5_statement_111 (by decide) ?_
                exact hend ((1 : Int32), h_56) H locs _ _ hf hP hS dX5_statement_112
              · replace hf := if_f c_55 hf
                refine lv_iconst (v := 0) hx hb dX5_statement_99 (by decide) ?_
                exact hend ((0 : Int32), a_52.2) H locs _ _ hf hP hS dX5_statement_100
          · replace hf := if_f c_46 hf
            refine lv_iload_n hx hb dX5_statement_35 rfl (lv_at hl 0 rfl) ?_
            refine lv_bipush (v := 119) hx hb dX5_statement_36 (by decide +kernel) ?_
            refine lv_icmp_eq (tgt := 43) hx hb dX5_statement_38 (by decide) (fun c_57 => ?_) (fun c_57 => ?_)
            · replace hf := if_t c_57 hf
              refine lv_aload_n hx hb dX5_statement_43 rfl (lv_at hl 1 rfl) ?_
              refine va_get (D := D) (ci := 5) (v := .ref (A 10)) (C := RX5) (T := TX5) (N := 27) hx hb hts hw5 hown hK hP 0 cM_at0 rfl 13 (by decide) k37 (fun _ h9 => h9) rfl dX5_statement_44 ?_
              refine lv_aload_n hx hb dX5_statement_47 rfl (lv_at hl 1 rfl) ?_
              refine va_get (D := D) (ci := 5) (v := .int (M 16 6)) (C := RX5) (T := TX5) (N := 27) hx hb hts hw5 hown hK hP 0 cM_at0 rfl 18 (by decide) k101 (fun _ h9 => h9) rfl dX5_statement_48 ?_
              refine lv_iload_n hx hb dX5_statement_51 rfl (lv_at hl 0 rfl) ?_
              obtain ⟨c_58, hf⟩ := gi_e hf
              refine va_iast hx hb hK hP hD hS 10 0 cM_at10 rfl c_58 dX5_statement_52 (fun H locs hP hD hS => ?_)
              obtain ⟨h_59, eh_59, hf⟩ := nq_e hf
              rw [cM_su10, ← eh_59] at hP hD
              refine lv_aload_n hx hb dX5_statement_53 rfl (lv_at hl 1 rfl) ?_
              refine va_get (D := D) (ci := 5) (v := .ref (A 11)) (C := RX5) (T := TX5) (N := 27) hx hb hts hw5 hown hK hP 0 cM_at0 rfl 14 (by decide) k40 (fun _ h9 => h9) rfl dX5_statement_54 ?_
              refine lv_aload_n hx hb dX5_statement_57 rfl (lv_at hl 1 rfl) ?_
              refine va_get (D := D) (ci := 5) (v := .int (h_59 16 6)) (C := RX5) (T := TX5) (N := 27) hx hb hts hw5 hown hK hP 0 cM_at0 rfl 18 (by decide) k101 (fun _ h9 => h9) rfl dX5_statement_58 ?_
              refine lv_aload_n hx hb dX5_statement_61 rfl (lv_at hl 1 rfl) ?_
              refine va_get (D := D) (ci := 5) (v := .int (h_59 16 5)) (C := RX5) (T := TX5) (N := 27) hx hb hts hw5 hown hK hP 0 cM_at0 rfl 17 (by decide) k79 (fun _ h9 => h9) rfl dX5_statement_62 ?_
              obtain ⟨c_60, hf⟩ := gi_e hf
              refine va_iast hx hb hK hP hD hS 11 0 cM_at11 rfl c_60 dX5_statement_65 (fun H locs hP hD hS => ?_)
              obtain ⟨h_61, eh_61, hf⟩ := nq_e hf
              rw [cM_su11, ← eh_61] at hP hD
              refine lv_aload_n hx hb dX5_statement_66 rfl (lv_at hl 1 rfl) ?_
              refine lv_dup hx hb dX5_statement_67 rfl ?_
              refine va_get (D := D) (ci := 5) (v := .int (h_61 16 5)) (C := RX5) (T := TX5) (N := 27) hx hb hts hw5 hown hK hP 0 cM_at0 rfl 17 (by decide) k79 (fun _ h9 => h9) rfl dX5_statement_68 ?_
              refine lv_iconst (v := 1) hx hb dX5_statement_71 (by decide) ?_
              refine lv_iadd hx hb dX5_statement_72 ?_
              refine va_put (D := D) (ci := 5) (v := .int ((h_61 16 5) + (1 : Int32))) (ty := .int) (C := RX5) (T := TX5) (N := 27) hx hb hts hw5 tyX5 tyX5_ok nmX5 hown hK hP hD hS 0 cM_at0 rfl 17 (by decide) k79 (fun _ h9 => h9) rfl (tyX5_ok 17 (by decide)) rfl rfl (Nat.le_of_ble_eq_true rfl) dX5_statement_73 (fun H locs hP hD hS => ?_)
              obtain ⟨h_62, eh_62, hf⟩ := nq_e hf
              rw [cM_sc0_17, ← eh_62] at hP hD
              refine lv_aload_n hx hb dX5_statement_76 rfl (lv_at hl 1 rfl) ?_
              refine lv_iload_n hx hb dX5_statement_77 rfl (lv_at hl 0 rfl) ?_
              refine lv_iconst (v := 4) hx hb dX5_statement_78 (by decide) ?_
              refine lv_aload_n hx hb dX5_statement_79 rfl (lv_at hl 1 rfl) ?_
              refine va_get (D := D) (ci := 5) (v := .int (h_62 16 6)) (C := RX5) (T := TX5) (N := 27) hx hb hts hw5 hown hK hP 0 cM_at0 rfl 18 (by decide) k101 (fun _ h9 => h9) rfl dX5_statement_80 ?_
              refine lv_imul hx hb dX5_statement_83 ?_
              obtain ⟨a_63, ha_63, hf⟩ := bd_e hf
              refine Ct.callV (As := [.int a_1, .int ((4 : Int32) * (h_62 16 6))]) (rest := []) (st1 := [.int a_63.1]) (c_X5_readsAll l D cI A h_62 a_1 ((4 : Int32) * (h_62 16 6)) a_63 ha_63) hx hb hml hown hts (cwV 2 hts gX5_statement_X5_readsAll rfl rfl rfl hd_X5_readsAll ⟨Nat.le_of_ble_eq_true rfl, Nat.le_of_ble_eq_true rfl⟩) (va_recv hK hP (ci := 5) (q0 := 0) rfl cM_at0) (Ln.id rfl) hA hK hP hD hS rfl hl.1 rfl rfl (Nat.le_of_ble_eq_true rfl) dX5_statement_84 (fun H locs hP hD hS => ?_)
              replace hP : va_P D vwCl (cM cI A a_63.2) H := hP
              replace hD : va_D AA (cM cI A a_63.2) := hD
              refine lv_if_eq (tgt := 99) hx hb dX5_statement_87 (by decide) (fun c_64 => ?_) (fun c_64 => ?_)
              · replace hf := if_t c_64 hf
                refine lv_iconst (v := 0) hx hb dX5_statement_99 (by decide) ?_
                exact hend ((0 : Int32), a_63.2) H locs _ _ hf hP hS dX5_statement_100
              · replace hf := if_f c_64 hf
                refine lv_aload_n hx hb dX5_statement_90 rfl (lv_at hl 1 rfl) ?_
                obtain ⟨a_65, ha_65, hf⟩ := bd_e hf
                refine Ct.callV (As := []) (rest := []) (st1 := [.int a_65]) (c_X5_next l D cI A a_63.2 a_65 ha_65) hx hb hml hown hts (cwV 0 hts gX5_statement_X5_next rfl rfl rfl hd_X5_next ⟨Nat.le_of_ble_eq_true rfl, Nat.le_of_ble_eq_true rfl⟩) (va_recv hK hP (ci := 5) (q0 := 0) rfl cM_at0) (Ln.id rfl) hA hK hP hD hS rfl hl.1 rfl rfl (Nat.le_of_ble_eq_true rfl) dX5_statement_91 (fun H locs hP hD hS => ?_)
                refine lv_bipush (v := 59) hx hb dX5_statement_94 (by decide +kernel) ?_
                refine lv_icmp_eq (tgt := 101) hx hb dX5_statement_96 (by decide) (fun c_66 => ?_) (fun c_66 => ?_)
                · replace hf := if_t c_66 hf
                  refine lv_aload_n hx hb dX5_statement_101 rfl (lv_at hl 1 rfl) ?_
                  refine lv_dup hx hb dX5_statement_102 rfl ?_
                  refine va_get (D := D) (ci := 5) (v := .int (a_63.2 16 5)) (C := RX5) (T := TX5) (N := 27) hx hb hts hw5 hown hK hP 0 cM_at0 rfl 17 (by decide) k79 (fun _ h9 => h9) rfl dX5_statement_103 ?_
                  refine lv_iconst (v := 1) hx hb dX5_statement_106 (by decide) ?_
                  refine lv_iadd hx hb dX5_statement_107 ?_
                  refine va_put (D := D) (ci := 5) (v := .int ((a_63.2 16 5) + (1 : Int32))) (ty := .int) (C := RX5) (T := TX5) (N := 27) hx hb hts hw5 tyX5 tyX5_ok nmX5 hown hK hP hD hS 0 cM_at0 rfl 17 (by decide) k79 (fun _ h9 => h9) rfl (tyX5_ok 17 (by decide)) rfl rfl (Nat.le_of_ble_eq_true rfl) dX5_statement_108 (fun H locs hP hD hS => ?_)
                  obtain ⟨h_67, eh_67, hf⟩ := nq_e hf
                  rw [cM_sc0_17, ← eh_67] at hP hD
                  refine lv_iconst (v := 1) hx hb dX5_statement_111 (by decide) ?_
                  exact hend ((1 : Int32), h_67) H locs _ _ hf hP hS dX5_statement_112
                · replace hf := if_f c_66 hf
                  refine lv_iconst (v := 0) hx hb dX5_statement_99 (by decide) ?_
                  exact hend ((0 : Int32), a_63.2) H locs _ _ hf hP hS dX5_statement_100
            · replace hf := if_f c_57 hf
              refine lv_iconst (v := 0) hx hb dX5_statement_41 (by decide) ?_
              exact hend ((0 : Int32), M) H locs _ _ hf hP hS dX5_statement_42

def rm_X5_comesShip : Room := { frames := 0, cells := 0, slots := 0, locals := 0 }
theorem hd_X5_comesShip : yX5_comesShip.cls = RX5 ∧ yX5_comesShip.cls ≠ "java/lang/invoke/MethodHandle" ∧ yX5_comesShip.cls ≠ "java/lang/invoke/VarHandle" ∧ (parseMethodDescriptor yX5_comesShip.desc).map (fun d => d.parameters.length) = some 1 := by decide +kernel
set_option maxRecDepth 100000 in
set_option maxHeartbeats 4000000 in
theorem c_X5_comesShip (l : Launch) (D : va_G) (cI : ClassId) (A : Nat → Nat) (M : St) (p1 : Int32) (r : Int32 × St) (hf : f_X5_comesShip M p1 = some r) : Ct l yX5_comesShip wsX5_comesShip rm_X5_comesShip D cI (cM cI A M) (cM cI A r.2) [.ref (A 0), .int p1] (some (.int r.1)) := by
  unfold f_X5_comesShip at hf
  obtain ⟨hz, hf⟩ := fzp_e hf
  refine Ct.ofZ hz (cc := cX5_comesShip) (maxL := 2) (by decide +kernel) rfl (Nat.le_of_ble_eq_true rfl) ?_
  intro p e s m args below meth c AA Q H locs ls hx hb hml hown hts hA hK hP hD hS hl hend0
  have hend : ∀ (r1 : Int32 × St) (H : Heap) (locs : List Loc) (pc : Nat) (ls : Array Slot), some r1 = some r → va_P D vwCl (cM cI A r1.2) H → va_S AA s.heap H locs → decode cX5_comesShip pc = .ok (.ireturn, 1) → W p l e rm_X5_comesShip s m args below meth c H locs 0 0 Q (F0 m pc ls [.int r1.1]) := by
    intro r1 H locs pc ls e1 hP hS hd; cases e1; exact hend0 H locs pc ls hP hS hd
  clear hend0
  have hw5 : ∀ w ∈ wsX50, w ∈ wsX5_comesShip := by decide +kernel
  have k13 := hts (.fieldLink RX5 13 "AnchorsForConfessionModel" "heavy" "[I") (by decide +kernel)
  have k16 := hts (.fieldLink RX5 16 "AnchorsForConfessionModel" "loose" "[I") (by decide +kernel)
  have k19 := hts (.fieldLink RX5 19 "AnchorsForConfessionModel" "out" "[I") (by decide +kernel)
  have k58 := hts (.fieldLink RX5 58 "AnchorsForConfessionModel" "ships" "I") (by decide +kernel)
  replace hl : lv_has ls 2 [(0, .ref (A 0)), (1, .int p1)] := hl
  refine lv_aload_n hx hb dX5_comesShip_0 rfl (lv_at hl 0 rfl) ?_
  refine va_get (D := D) (ci := 5) (v := .int (M 16 0)) (C := RX5) (T := TX5) (N := 27) hx hb hts hw5 hown hK hP 0 cM_at0 rfl 8 (by decide) k58 (fun _ h9 => h9) rfl dX5_comesShip_1 ?_
  refine lv_iconst (v := 5) hx hb dX5_comesShip_4 (by decide) ?_
  refine lv_icmp_ne (tgt := 10) hx hb dX5_comesShip_5 (by decide) (fun c_1 => ?_) (fun c_1 => ?_)
  · replace hf := if_f c_1 hf
    refine lv_aload_n hx hb dX5_comesShip_10 rfl (lv_at hl 0 rfl) ?_
    refine va_get (D := D) (ci := 5) (v := .ref (A 2)) (C := RX5) (T := TX5) (N := 27) hx hb hts hw5 hown hK hP 0 cM_at0 rfl 1 (by decide) k13 (fun _ h9 => h9) rfl dX5_comesShip_11 ?_
    refine lv_aload_n hx hb dX5_comesShip_14 rfl (lv_at hl 0 rfl) ?_
    refine va_get (D := D) (ci := 5) (v := .int (M 16 0)) (C := RX5) (T := TX5) (N := 27) hx hb hts hw5 hown hK hP 0 cM_at0 rfl 8 (by decide) k58 (fun _ h9 => h9) rfl dX5_comesShip_15 ?_
    refine lv_iload_n hx hb dX5_comesShip_18 rfl (lv_at hl 1 rfl) ?_
    obtain ⟨c_2, hf⟩ := gi_e hf
    refine va_iast hx hb hK hP hD hS 2 0 cM_at2 rfl c_2 dX5_comesShip_19 (fun H locs hP hD hS => ?_)
    obtain ⟨h_3, eh_3, hf⟩ := nq_e hf
    rw [cM_su2, ← eh_3] at hP hD
    refine lv_aload_n hx hb dX5_comesShip_20 rfl (lv_at hl 0 rfl) ?_
    refine va_get (D := D) (ci := 5) (v := .ref (A 3)) (C := RX5) (T := TX5) (N := 27) hx hb hts hw5 hown hK hP 0 cM_at0 rfl 2 (by decide) k16 (fun _ h9 => h9) rfl dX5_comesShip_21 ?_
    refine lv_aload_n hx hb dX5_comesShip_24 rfl (lv_at hl 0 rfl) ?_
    refine va_get (D := D) (ci := 5) (v := .int (h_3 16 0)) (C := RX5) (T := TX5) (N := 27) hx hb hts hw5 hown hK hP 0 cM_at0 rfl 8 (by decide) k58 (fun _ h9 => h9) rfl dX5_comesShip_25 ?_
    refine lv_iconst (v := 0) hx hb dX5_comesShip_28 (by decide) ?_
    obtain ⟨c_4, hf⟩ := gi_e hf
    refine va_iast hx hb hK hP hD hS 3 0 cM_at3 rfl c_4 dX5_comesShip_29 (fun H locs hP hD hS => ?_)
    obtain ⟨h_5, eh_5, hf⟩ := nq_e hf
    rw [cM_su3, ← eh_5] at hP hD
    refine lv_aload_n hx hb dX5_comesShip_30 rfl (lv_at hl 0 rfl) ?_
    refine va_get (D := D) (ci := 5) (v := .ref (A 4)) (C := RX5) (T := TX5) (N := 27) hx hb hts hw5 hown hK hP 0 cM_at0 rfl 3 (by decide) k19 (fun _ h9 => h9) rfl dX5_comesShip_31 ?_
    refine lv_aload_n hx hb dX5_comesShip_34 rfl (lv_at hl 0 rfl) ?_
    refine va_get (D := D) (ci := 5) (v := .int (h_5 16 0)) (C := RX5) (T := TX5) (N := 27) hx hb hts hw5 hown hK hP 0 cM_at0 rfl 8 (by decide) k58 (fun _ h9 => h9) rfl dX5_comesShip_35 ?_
    refine lv_iconst (v := 0) hx hb dX5_comesShip_38 (by decide) ?_
    obtain ⟨c_6, hf⟩ := gi_e hf
    refine va_iast hx hb hK hP hD hS 4 0 cM_at4 rfl c_6 dX5_comesShip_39 (fun H locs hP hD hS => ?_)
    obtain ⟨h_7, eh_7, hf⟩ := nq_e hf
    rw [cM_su4, ← eh_7] at hP hD
    refine lv_aload_n hx hb dX5_comesShip_40 rfl (lv_at hl 0 rfl) ?_
    refine lv_dup hx hb dX5_comesShip_41 rfl ?_
    refine va_get (D := D) (ci := 5) (v := .int (h_7 16 0)) (C := RX5) (T := TX5) (N := 27) hx hb hts hw5 hown hK hP 0 cM_at0 rfl 8 (by decide) k58 (fun _ h9 => h9) rfl dX5_comesShip_42 ?_
    refine lv_iconst (v := 1) hx hb dX5_comesShip_45 (by decide) ?_
    refine lv_iadd hx hb dX5_comesShip_46 ?_
    refine va_put (D := D) (ci := 5) (v := .int ((h_7 16 0) + (1 : Int32))) (ty := .int) (C := RX5) (T := TX5) (N := 27) hx hb hts hw5 tyX5 tyX5_ok nmX5 hown hK hP hD hS 0 cM_at0 rfl 8 (by decide) k58 (fun _ h9 => h9) rfl (tyX5_ok 8 (by decide)) rfl rfl (Nat.le_of_ble_eq_true rfl) dX5_comesShip_47 (fun H locs hP hD hS => ?_)
    obtain ⟨h_8, eh_8, hf⟩ := nq_e hf
    rw [cM_sc0_8, ← eh_8] at hP hD
    refine lv_iconst (v := 1) hx hb dX5_comesShip_50 (by decide) ?_
    exact hend ((1 : Int32), h_8) H locs _ _ hf hP hS dX5_comesShip_51
  · replace hf := if_t c_1 hf
    refine lv_iconst (v := 0) hx hb dX5_comesShip_8 (by decide) ?_
    exact hend ((0 : Int32), M) H locs _ _ hf hP hS dX5_comesShip_9

def rm_X5_comesMan : Room := { frames := 1, cells := 0, slots := 0, locals := 21 }
theorem hd_X5_comesMan : yX5_comesMan.cls = RX5 ∧ yX5_comesMan.cls ≠ "java/lang/invoke/MethodHandle" ∧ yX5_comesMan.cls ≠ "java/lang/invoke/VarHandle" ∧ (parseMethodDescriptor yX5_comesMan.desc).map (fun d => d.parameters.length) = some 1 := by decide +kernel
set_option maxRecDepth 100000 in
set_option maxHeartbeats 4000000 in
theorem c_X5_comesMan (l : Launch) (D : va_G) (cI : ClassId) (A : Nat → Nat) (M : St) (p1 : Int32) (r : Int32 × St) (hf : f_X5_comesMan M p1 = some r) : Ct l yX5_comesMan wsX5_comesMan rm_X5_comesMan D cI (cM cI A M) (cM cI A r.2) [.ref (A 0), .int p1] (some (.int r.1)) := by
  unfold f_X5_comesMan at hf
  obtain ⟨hz, hf⟩ := fzp_e hf
  refine Ct.ofZ hz (cc := cX5_comesMan) (maxL := 2) (by decide +kernel) rfl (Nat.le_of_ble_eq_true rfl) ?_
  intro p e s m args below meth c AA Q H locs ls hx hb hml hown hts hA hK hP hD hS hl hend0
  have hend : ∀ (r1 : Int32 × St) (H : Heap) (locs : List Loc) (pc : Nat) (ls : Array Slot), some r1 = some r → va_P D vwCl (cM cI A r1.2) H → va_S AA s.heap H locs → decode cX5_comesMan pc = .ok (.ireturn, 1) → W p l e rm_X5_comesMan s m args below meth c H locs 0 0 Q (F0 m pc ls [.int r1.1]) := by
    intro r1 H locs pc ls e1 hP hS hd; cases e1; exact hend0 H locs pc ls hP hS hd
  clear hend0
  have hw5 : ∀ w ∈ wsX50, w ∈ wsX5_comesMan := by decide +kernel
  have k22 := hts (.fieldLink RX5 22 "AnchorsForConfessionModel" "kind" "[I") (by decide +kernel)
  have k25 := hts (.fieldLink RX5 25 "AnchorsForConfessionModel" "figure" "[I") (by decide +kernel)
  have k28 := hts (.fieldLink RX5 28 "AnchorsForConfessionModel" "sins" "[I") (by decide +kernel)
  have k31 := hts (.fieldLink RX5 31 "AnchorsForConfessionModel" "aboard" "[I") (by decide +kernel)
  have k43 := hts (.fieldLink RX5 43 "AnchorsForConfessionModel" "told" "[I") (by decide +kernel)
  have k65 := hts (.fieldLink RX5 65 "AnchorsForConfessionModel" "men" "I") (by decide +kernel)
  replace hl : lv_has ls 2 [(0, .ref (A 0)), (1, .int p1)] := hl
  refine lv_aload_n hx hb dX5_comesMan_0 rfl (lv_at hl 0 rfl) ?_
  refine lv_aload_n hx hb dX5_comesMan_1 rfl (lv_at hl 0 rfl) ?_
  refine va_get (D := D) (ci := 5) (v := .ref (A 12)) (C := RX5) (T := TX5) (N := 27) hx hb hts hw5 hown hK hP 0 cM_at0 rfl 15 (by decide) k43 (fun _ h9 => h9) rfl dX5_comesMan_2 ?_
  refine lv_iload_n hx hb dX5_comesMan_5 rfl (lv_at hl 1 rfl) ?_
  refine lv_iconst (v := 3) hx hb dX5_comesMan_6 (by decide) ?_
  refine lv_iadd hx hb dX5_comesMan_7 ?_
  obtain ⟨c_1, hf⟩ := gi_e hf
  refine va_iald hx hb hK hP 12 0 cM_at12 rfl c_1 dX5_comesMan_8 ?_
  obtain ⟨a_2, ha_2, hf⟩ := bd_e hf
  refine Ct.callV (As := [.int (M 11 ((p1 + (3 : Int32))).toNatClampNeg)]) (rest := []) (st1 := [.int a_2]) (c_X5_isShip l D cI A M (M 11 ((p1 + (3 : Int32))).toNatClampNeg) a_2 ha_2) hx hb hml hown hts (cwV 1 hts gX5_comesMan_X5_isShip rfl rfl rfl hd_X5_isShip ⟨Nat.le_of_ble_eq_true rfl, Nat.le_of_ble_eq_true rfl⟩) (va_recv hK hP (ci := 5) (q0 := 0) rfl cM_at0) (Ln.id rfl) hA hK hP hD hS rfl hl.1 rfl rfl (Nat.le_of_ble_eq_true rfl) dX5_comesMan_9 (fun H locs hP hD hS => ?_)
  refine lv_if_eq (tgt := 24) hx hb dX5_comesMan_12 (by decide) (fun c_3 => ?_) (fun c_3 => ?_)
  · replace hf := if_t c_3 hf
    refine lv_iconst (v := 0) hx hb dX5_comesMan_24 (by decide) ?_
    exact hend ((0 : Int32), M) H locs _ _ hf hP hS dX5_comesMan_25
  · replace hf := if_f c_3 hf
    refine lv_aload_n hx hb dX5_comesMan_15 rfl (lv_at hl 0 rfl) ?_
    refine va_get (D := D) (ci := 5) (v := .int (M 16 1)) (C := RX5) (T := TX5) (N := 27) hx hb hts hw5 hown hK hP 0 cM_at0 rfl 9 (by decide) k65 (fun _ h9 => h9) rfl dX5_comesMan_16 ?_
    refine lv_bipush (v := 8) hx hb dX5_comesMan_19 (by decide +kernel) ?_
    refine lv_icmp_ne (tgt := 26) hx hb dX5_comesMan_21 (by decide) (fun c_4 => ?_) (fun c_4 => ?_)
    · replace hf := if_f c_4 hf
      refine lv_aload_n hx hb dX5_comesMan_26 rfl (lv_at hl 0 rfl) ?_
      refine va_get (D := D) (ci := 5) (v := .ref (A 5)) (C := RX5) (T := TX5) (N := 27) hx hb hts hw5 hown hK hP 0 cM_at0 rfl 4 (by decide) k22 (fun _ h9 => h9) rfl dX5_comesMan_27 ?_
      refine lv_aload_n hx hb dX5_comesMan_30 rfl (lv_at hl 0 rfl) ?_
      refine va_get (D := D) (ci := 5) (v := .int (M 16 1)) (C := RX5) (T := TX5) (N := 27) hx hb hts hw5 hown hK hP 0 cM_at0 rfl 9 (by decide) k65 (fun _ h9 => h9) rfl dX5_comesMan_31 ?_
      refine lv_aload_n hx hb dX5_comesMan_34 rfl (lv_at hl 0 rfl) ?_
      refine va_get (D := D) (ci := 5) (v := .ref (A 12)) (C := RX5) (T := TX5) (N := 27) hx hb hts hw5 hown hK hP 0 cM_at0 rfl 15 (by decide) k43 (fun _ h9 => h9) rfl dX5_comesMan_35 ?_
      refine lv_iload_n hx hb dX5_comesMan_38 rfl (lv_at hl 1 rfl) ?_
      obtain ⟨c_5, hf⟩ := gi_e hf
      refine va_iald hx hb hK hP 12 0 cM_at12 rfl c_5 dX5_comesMan_39 ?_
      obtain ⟨c_6, hf⟩ := gi_e hf
      refine va_iast hx hb hK hP hD hS 5 0 cM_at5 rfl c_6 dX5_comesMan_40 (fun H locs hP hD hS => ?_)
      obtain ⟨h_7, eh_7, hf⟩ := nq_e hf
      rw [cM_su5, ← eh_7] at hP hD
      refine lv_aload_n hx hb dX5_comesMan_41 rfl (lv_at hl 0 rfl) ?_
      refine va_get (D := D) (ci := 5) (v := .ref (A 6)) (C := RX5) (T := TX5) (N := 27) hx hb hts hw5 hown hK hP 0 cM_at0 rfl 5 (by decide) k25 (fun _ h9 => h9) rfl dX5_comesMan_42 ?_
      refine lv_aload_n hx hb dX5_comesMan_45 rfl (lv_at hl 0 rfl) ?_
      refine va_get (D := D) (ci := 5) (v := .int (h_7 16 1)) (C := RX5) (T := TX5) (N := 27) hx hb hts hw5 hown hK hP 0 cM_at0 rfl 9 (by decide) k65 (fun _ h9 => h9) rfl dX5_comesMan_46 ?_
      refine lv_aload_n hx hb dX5_comesMan_49 rfl (lv_at hl 0 rfl) ?_
      refine va_get (D := D) (ci := 5) (v := .ref (A 12)) (C := RX5) (T := TX5) (N := 27) hx hb hts hw5 hown hK hP 0 cM_at0 rfl 15 (by decide) k43 (fun _ h9 => h9) rfl dX5_comesMan_50 ?_
      refine lv_iload_n hx hb dX5_comesMan_53 rfl (lv_at hl 1 rfl) ?_
      refine lv_iconst (v := 1) hx hb dX5_comesMan_54 (by decide) ?_
      refine lv_iadd hx hb dX5_comesMan_55 ?_
      obtain ⟨c_8, hf⟩ := gi_e hf
      refine va_iald hx hb hK hP 12 0 cM_at12 rfl c_8 dX5_comesMan_56 ?_
      obtain ⟨c_9, hf⟩ := gi_e hf
      refine va_iast hx hb hK hP hD hS 6 0 cM_at6 rfl c_9 dX5_comesMan_57 (fun H locs hP hD hS => ?_)
      obtain ⟨h_10, eh_10, hf⟩ := nq_e hf
      rw [cM_su6, ← eh_10] at hP hD
      refine lv_aload_n hx hb dX5_comesMan_58 rfl (lv_at hl 0 rfl) ?_
      refine va_get (D := D) (ci := 5) (v := .ref (A 7)) (C := RX5) (T := TX5) (N := 27) hx hb hts hw5 hown hK hP 0 cM_at0 rfl 6 (by decide) k28 (fun _ h9 => h9) rfl dX5_comesMan_59 ?_
      refine lv_aload_n hx hb dX5_comesMan_62 rfl (lv_at hl 0 rfl) ?_
      refine va_get (D := D) (ci := 5) (v := .int (h_10 16 1)) (C := RX5) (T := TX5) (N := 27) hx hb hts hw5 hown hK hP 0 cM_at0 rfl 9 (by decide) k65 (fun _ h9 => h9) rfl dX5_comesMan_63 ?_
      refine lv_aload_n hx hb dX5_comesMan_66 rfl (lv_at hl 0 rfl) ?_
      refine va_get (D := D) (ci := 5) (v := .ref (A 12)) (C := RX5) (T := TX5) (N := 27) hx hb hts hw5 hown hK hP 0 cM_at0 rfl 15 (by decide) k43 (fun _ h9 => h9) rfl dX5_comesMan_67 ?_
      refine lv_iload_n hx hb dX5_comesMan_70 rfl (lv_at hl 1 rfl) ?_
      refine lv_iconst (v := 2) hx hb dX5_comesMan_71 (by decide) ?_
      refine lv_iadd hx hb dX5_comesMan_72 ?_
      obtain ⟨c_11, hf⟩ := gi_e hf
      refine va_iald hx hb hK hP 12 0 cM_at12 rfl c_11 dX5_comesMan_73 ?_
      obtain ⟨c_12, hf⟩ := gi_e hf
      refine va_iast hx hb hK hP hD hS 7 0 cM_at7 rfl c_12 dX5_comesMan_74 (fun H locs hP hD hS => ?_)
      obtain ⟨h_13, eh_13, hf⟩ := nq_e hf
      rw [cM_su7, ← eh_13] at hP hD
      refine lv_aload_n hx hb dX5_comesMan_75 rfl (lv_at hl 0 rfl) ?_
      refine va_get (D := D) (ci := 5) (v := .ref (A 8)) (C := RX5) (T := TX5) (N := 27) hx hb hts hw5 hown hK hP 0 cM_at0 rfl 7 (by decide) k31 (fun _ h9 => h9) rfl dX5_comesMan_76 ?_
      refine lv_aload_n hx hb dX5_comesMan_79 rfl (lv_at hl 0 rfl) ?_
      refine va_get (D := D) (ci := 5) (v := .int (h_13 16 1)) (C := RX5) (T := TX5) (N := 27) hx hb hts hw5 hown hK hP 0 cM_at0 rfl 9 (by decide) k65 (fun _ h9 => h9) rfl dX5_comesMan_80 ?_
      refine lv_aload_n hx hb dX5_comesMan_83 rfl (lv_at hl 0 rfl) ?_
      refine va_get (D := D) (ci := 5) (v := .ref (A 12)) (C := RX5) (T := TX5) (N := 27) hx hb hts hw5 hown hK hP 0 cM_at0 rfl 15 (by decide) k43 (fun _ h9 => h9) rfl dX5_comesMan_84 ?_
      refine lv_iload_n hx hb dX5_comesMan_87 rfl (lv_at hl 1 rfl) ?_
      refine lv_iconst (v := 3) hx hb dX5_comesMan_88 (by decide) ?_
      refine lv_iadd hx hb dX5_comesMan_89 ?_
      obtain ⟨c_14, hf⟩ := gi_e hf
      refine va_iald hx hb hK hP 12 0 cM_at12 rfl c_14 dX5_comesMan_90 ?_
      obtain ⟨c_15, hf⟩ := gi_e hf
      refine va_iast hx hb hK hP hD hS 8 0 cM_at8 rfl c_15 dX5_comesMan_91 (fun H locs hP hD hS => ?_)
      obtain ⟨h_16, eh_16, hf⟩ := nq_e hf
      rw [cM_su8, ← eh_16] at hP hD
      refine lv_aload_n hx hb dX5_comesMan_92 rfl (lv_at hl 0 rfl) ?_
      refine lv_dup hx hb dX5_comesMan_93 rfl ?_
      refine va_get (D := D) (ci := 5) (v := .int (h_16 16 1)) (C := RX5) (T := TX5) (N := 27) hx hb hts hw5 hown hK hP 0 cM_at0 rfl 9 (by decide) k65 (fun _ h9 => h9) rfl dX5_comesMan_94 ?_
      refine lv_iconst (v := 1) hx hb dX5_comesMan_97 (by decide) ?_
      refine lv_iadd hx hb dX5_comesMan_98 ?_
      refine va_put (D := D) (ci := 5) (v := .int ((h_16 16 1) + (1 : Int32))) (ty := .int) (C := RX5) (T := TX5) (N := 27) hx hb hts hw5 tyX5 tyX5_ok nmX5 hown hK hP hD hS 0 cM_at0 rfl 9 (by decide) k65 (fun _ h9 => h9) rfl (tyX5_ok 9 (by decide)) rfl rfl (Nat.le_of_ble_eq_true rfl) dX5_comesMan_99 (fun H locs hP hD hS => ?_)
      obtain ⟨h_17, eh_17, hf⟩ := nq_e hf
      rw [cM_sc0_9, ← eh_17] at hP hD
      refine lv_iconst (v := 1) hx hb dX5_comesMan_102 (by decide) ?_
      exact hend ((1 : Int32), h_17) H locs _ _ hf hP hS dX5_comesMan_103
    · replace hf := if_t c_4 hf
      refine lv_iconst (v := 0) hx hb dX5_comesMan_24 (by decide) ?_
      exact hend ((0 : Int32), M) H locs _ _ hf hP hS dX5_comesMan_25

def rm_X5_moreSins : Room := { frames := 0, cells := 0, slots := 0, locals := 0 }
theorem hd_X5_moreSins : yX5_moreSins.cls = RX5 ∧ yX5_moreSins.cls ≠ "java/lang/invoke/MethodHandle" ∧ yX5_moreSins.cls ≠ "java/lang/invoke/VarHandle" ∧ (parseMethodDescriptor yX5_moreSins.desc).map (fun d => d.parameters.length) = some 1 := by decide +kernel
set_option maxRecDepth 100000 in
set_option maxHeartbeats 4000000 in
theorem c_X5_moreSins (l : Launch) (D : va_G) (cI : ClassId) (A : Nat → Nat) (M : St) (p1 : Int32) (r : Int32) (hf : f_X5_moreSins M p1 = some r) : Ct l yX5_moreSins wsX5_moreSins rm_X5_moreSins D cI (cM cI A M) (cM cI A M) [.ref (A 0), .int p1] (some (.int r)) := by
  unfold f_X5_moreSins at hf
  refine Ct.ofI (cc := cX5_moreSins) (maxL := 2) (by decide +kernel) rfl (Nat.le_of_ble_eq_true rfl) ?_
  intro p e s m args below meth c AA Q H locs ls hx hb hml hown hts hA hK hP hD hS hl hend0
  have hend : ∀ (r1 : Int32) (H : Heap) (locs : List Loc) (pc : Nat) (ls : Array Slot), some r1 = some r → va_P D vwCl (cM cI A M) H → va_S AA s.heap H locs → decode cX5_moreSins pc = .ok (.ireturn, 1) → W p l e rm_X5_moreSins s m args below meth c H locs 0 0 Q (F0 m pc ls [.int r1]) := by
    intro r1 H locs pc ls e1 hP hS hd; cases e1; exact hend0 H locs pc ls hP hS hd
  clear hend0
  have hw5 : ∀ w ∈ wsX50, w ∈ wsX5_moreSins := by decide +kernel
  have k22 := hts (.fieldLink RX5 22 "AnchorsForConfessionModel" "kind" "[I") (by decide +kernel)
  replace hl : lv_has ls 2 [(0, .ref (A 0)), (1, .int p1)] := hl
  refine lv_aload_n hx hb dX5_moreSins_0 rfl (lv_at hl 0 rfl) ?_
  refine va_get (D := D) (ci := 5) (v := .ref (A 5)) (C := RX5) (T := TX5) (N := 27) hx hb hts hw5 hown hK hP 0 cM_at0 rfl 4 (by decide) k22 (fun _ h9 => h9) rfl dX5_moreSins_1 ?_
  refine lv_iload_n hx hb dX5_moreSins_4 rfl (lv_at hl 1 rfl) ?_
  obtain ⟨c_1, hf⟩ := gi_e hf
  refine va_iald hx hb hK hP 5 0 cM_at5 rfl c_1 dX5_moreSins_5 ?_
  refine lv_iconst (v := 1) hx hb dX5_moreSins_6 (by decide) ?_
  refine lv_icmp_eq (tgt := 20) hx hb dX5_moreSins_7 (by decide) (fun c_2 => ?_) (fun c_2 => ?_)
  · replace hf := if_t c_2 hf
    refine lv_iconst (v := 0) hx hb dX5_moreSins_20 (by decide) ?_
    refine lv_goto (tgt := 39) hx hb dX5_moreSins_21 (by decide) ?_
    exact hend (0 : Int32) H locs _ _ hf hP hS dX5_moreSins_39
  · replace hf := if_f c_2 hf
    refine lv_aload_n hx hb dX5_moreSins_10 rfl (lv_at hl 0 rfl) ?_
    refine va_get (D := D) (ci := 5) (v := .ref (A 5)) (C := RX5) (T := TX5) (N := 27) hx hb hts hw5 hown hK hP 0 cM_at0 rfl 4 (by decide) k22 (fun _ h9 => h9) rfl dX5_moreSins_11 ?_
    refine lv_iload_n hx hb dX5_moreSins_14 rfl (lv_at hl 1 rfl) ?_
    obtain ⟨c_3, hf⟩ := gi_e hf
    refine va_iald hx hb hK hP 5 0 cM_at5 rfl c_3 dX5_moreSins_15 ?_
    refine lv_iconst (v := 5) hx hb dX5_moreSins_16 (by decide) ?_
    refine lv_icmp_ne (tgt := 24) hx hb dX5_moreSins_17 (by decide) (fun c_4 => ?_) (fun c_4 => ?_)
    · replace hf := if_f c_4 hf
      refine lv_aload_n hx hb dX5_moreSins_24 rfl (lv_at hl 0 rfl) ?_
      refine va_get (D := D) (ci := 5) (v := .ref (A 5)) (C := RX5) (T := TX5) (N := 27) hx hb hts hw5 hown hK hP 0 cM_at0 rfl 4 (by decide) k22 (fun _ h9 => h9) rfl dX5_moreSins_25 ?_
      refine lv_iload_n hx hb dX5_moreSins_28 rfl (lv_at hl 1 rfl) ?_
      obtain ⟨c_5, hf⟩ := gi_e hf
      refine va_iald hx hb hK hP 5 0 cM_at5 rfl c_5 dX5_moreSins_29 ?_
      refine lv_iconst (v := 3) hx hb dX5_moreSins_30 (by decide) ?_
      refine lv_icmp_ne (tgt := 38) hx hb dX5_moreSins_31 (by decide) (fun c_6 => ?_) (fun c_6 => ?_)
      · replace hf := if_f c_6 hf
        refine lv_iconst (v := 1) hx hb dX5_moreSins_38 (by decide) ?_
        exact hend (1 : Int32) H locs _ _ hf hP hS dX5_moreSins_39
      · replace hf := if_t c_6 hf
        refine lv_iconst (v := 2) hx hb dX5_moreSins_34 (by decide) ?_
        refine lv_goto (tgt := 39) hx hb dX5_moreSins_35 (by decide) ?_
        exact hend (2 : Int32) H locs _ _ hf hP hS dX5_moreSins_39
    · replace hf := if_t c_4 hf
      refine lv_iconst (v := 0) hx hb dX5_moreSins_20 (by decide) ?_
      refine lv_goto (tgt := 39) hx hb dX5_moreSins_21 (by decide) ?_
      exact hend (0 : Int32) H locs _ _ hf hP hS dX5_moreSins_39

def rm_X5_goesTide : Room := { frames := 1, cells := 0, slots := 0, locals := 22 }
theorem hd_X5_goesTide : yX5_goesTide.cls = RX5 ∧ yX5_goesTide.cls ≠ "java/lang/invoke/MethodHandle" ∧ yX5_goesTide.cls ≠ "java/lang/invoke/VarHandle" ∧ (parseMethodDescriptor yX5_goesTide.desc).map (fun d => d.parameters.length) = some 0 := by decide +kernel
set_option maxRecDepth 100000 in
set_option maxHeartbeats 4000000 in
theorem c_X5_goesTide (l : Launch) (D : va_G) (cI : ClassId) (A : Nat → Nat) (M : St) (r : St) (hf : f_X5_goesTide M = some r) : Ct l yX5_goesTide wsX5_goesTide rm_X5_goesTide D cI (cM cI A M) (cM cI A r) [.ref (A 0)] none := by
  unfold f_X5_goesTide at hf
  refine Ct.ofV (cc := cX5_goesTide) (maxL := 2) (by decide +kernel) rfl (Nat.le_of_ble_eq_true rfl) ?_
  intro p e s m args below meth c AA Q H locs ls hx hb hml hown hts hA hK hP hD hS hl hend0
  have hend : ∀ (r1 : St) (H : Heap) (locs : List Loc) (pc : Nat) (ls : Array Slot), some r1 = some r → va_P D vwCl (cM cI A r1) H → va_S AA s.heap H locs → decode cX5_goesTide pc = .ok (.return_, 1) → W p l e rm_X5_goesTide s m args below meth c H locs 0 0 Q (F0 m pc ls []) := by
    intro r1 H locs pc ls e1 hP hS hd; cases e1; exact hend0 H locs pc ls hP hS hd
  clear hend0
  have hw5 : ∀ w ∈ wsX50, w ∈ wsX5_goesTide := by decide +kernel
  have k19 := hts (.fieldLink RX5 19 "AnchorsForConfessionModel" "out" "[I") (by decide +kernel)
  have k28 := hts (.fieldLink RX5 28 "AnchorsForConfessionModel" "sins" "[I") (by decide +kernel)
  have k31 := hts (.fieldLink RX5 31 "AnchorsForConfessionModel" "aboard" "[I") (by decide +kernel)
  have k58 := hts (.fieldLink RX5 58 "AnchorsForConfessionModel" "ships" "I") (by decide +kernel)
  have k65 := hts (.fieldLink RX5 65 "AnchorsForConfessionModel" "men" "I") (by decide +kernel)
  have k110 := hts (.fieldLink RX5 110 "AnchorsForConfessionModel" "tide" "I") (by decide +kernel)
  replace hl : lv_has ls 2 [(0, .ref (A 0))] := hl
  refine lv_aload_n hx hb dX5_goesTide_0 rfl (lv_at hl 0 rfl) ?_
  refine lv_dup hx hb dX5_goesTide_1 rfl ?_
  refine va_get (D := D) (ci := 5) (v := .int (M 16 3)) (C := RX5) (T := TX5) (N := 27) hx hb hts hw5 hown hK hP 0 cM_at0 rfl 11 (by decide) k110 (fun _ h9 => h9) rfl dX5_goesTide_2 ?_
  refine lv_iconst (v := 1) hx hb dX5_goesTide_5 (by decide) ?_
  refine lv_iadd hx hb dX5_goesTide_6 ?_
  refine va_put (D := D) (ci := 5) (v := .int ((M 16 3) + (1 : Int32))) (ty := .int) (C := RX5) (T := TX5) (N := 27) hx hb hts hw5 tyX5 tyX5_ok nmX5 hown hK hP hD hS 0 cM_at0 rfl 11 (by decide) k110 (fun _ h9 => h9) rfl (tyX5_ok 11 (by decide)) rfl rfl (Nat.le_of_ble_eq_true rfl) dX5_goesTide_7 (fun H locs hP hD hS => ?_)
  obtain ⟨h_1, eh_1, hf⟩ := nq_e hf
  rw [cM_sc0_11, ← eh_1] at hP hD
  refine lv_iconst (v := 0) hx hb dX5_goesTide_10 (by decide) ?_
  refine lv_istore_n (lv' := [(1, .int (0 : Int32)), (0, .ref (A 0))]) hx hb dX5_goesTide_11 rfl hl (by decide) rfl (fun ls hl => ?_)
  refine lp_ind (P := fun (q12 : Int32 × St) => ∀ (H : Heap) (locs : List Loc) (ls : Array Slot), va_P D vwCl (cM cI A q12.2) H → va_D AA (cM cI A q12.2) → va_S AA s.heap H locs → lv_has ls 2 [(0, .ref (A 0)), (1, .int q12.1)] → W p l e rm_X5_goesTide s m args below meth c H locs 0 0 Q (F0 m 12 ls [])) hf ?_ H locs ls hP hD hS (lv_sub hl [1, 0] rfl)
  clear hf hP hD hS hl
  intro nx12 ih12 q12 hf H locs ls hP hD hS hl
  refine lv_iload_n hx hb dX5_goesTide_12 rfl (lv_at hl 1 rfl) ?_
  refine lv_aload_n hx hb dX5_goesTide_13 rfl (lv_at hl 0 rfl) ?_
  refine va_get (D := D) (ci := 5) (v := .int (q12.2 16 1)) (C := RX5) (T := TX5) (N := 27) hx hb hts hw5 hown hK hP 0 cM_at0 rfl 9 (by decide) k65 (fun _ h9 => h9) rfl dX5_goesTide_14 ?_
  refine lv_icmp_ge (tgt := 64) hx hb dX5_goesTide_17 (by decide) (fun c_2 => ?_) (fun c_2 => ?_)
  · replace hf := if_t c_2 hf
    refine lv_iconst (v := 0) hx hb dX5_goesTide_64 (by decide) ?_
    refine lv_istore_n (lv' := [(1, .int (0 : Int32)), (0, .ref (A 0))]) hx hb dX5_goesTide_65 rfl hl (by decide) rfl (fun ls hl => ?_)
    refine lp_ind (P := fun (q66 : Int32 × St) => ∀ (H : Heap) (locs : List Loc) (ls : Array Slot), va_P D vwCl (cM cI A q66.2) H → va_D AA (cM cI A q66.2) → va_S AA s.heap H locs → lv_has ls 2 [(0, .ref (A 0)), (1, .int q66.1)] → W p l e rm_X5_goesTide s m args below meth c H locs 0 0 Q (F0 m 66 ls [])) hf ?_ H locs ls hP hD hS (lv_sub hl [1, 0] rfl)
    clear hf hP hD hS hl
    intro nx66 ih66 q66 hf H locs ls hP hD hS hl
    refine lv_iload_n hx hb dX5_goesTide_66 rfl (lv_at hl 1 rfl) ?_
    refine lv_aload_n hx hb dX5_goesTide_67 rfl (lv_at hl 0 rfl) ?_
    refine va_get (D := D) (ci := 5) (v := .int (q66.2 16 0)) (C := RX5) (T := TX5) (N := 27) hx hb hts hw5 hown hK hP 0 cM_at0 rfl 8 (by decide) k58 (fun _ h9 => h9) rfl dX5_goesTide_68 ?_
    refine lv_icmp_ge (tgt := 103) hx hb dX5_goesTide_71 (by decide) (fun c_3 => ?_) (fun c_3 => ?_)
    · replace hf := if_t c_3 hf
      exact hend q66.2 H locs _ _ hf hP hS dX5_goesTide_103
    · replace hf := if_f c_3 hf
      refine lv_aload_n hx hb dX5_goesTide_74 rfl (lv_at hl 0 rfl) ?_
      refine va_get (D := D) (ci := 5) (v := .ref (A 4)) (C := RX5) (T := TX5) (N := 27) hx hb hts hw5 hown hK hP 0 cM_at0 rfl 3 (by decide) k19 (fun _ h9 => h9) rfl dX5_goesTide_75 ?_
      refine lv_iload_n hx hb dX5_goesTide_78 rfl (lv_at hl 1 rfl) ?_
      refine lv_dup2_11 hx hb dX5_goesTide_79 rfl rfl ?_
      obtain ⟨c_4, hf⟩ := gi_e hf
      refine va_iald hx hb hK hP 4 0 cM_at4 rfl c_4 dX5_goesTide_80 ?_
      refine lv_aload_n hx hb dX5_goesTide_81 rfl (lv_at hl 0 rfl) ?_
      refine va_get (D := D) (ci := 5) (v := .ref (A 4)) (C := RX5) (T := TX5) (N := 27) hx hb hts hw5 hown hK hP 0 cM_at0 rfl 3 (by decide) k19 (fun _ h9 => h9) rfl dX5_goesTide_82 ?_
      refine lv_iload_n hx hb dX5_goesTide_85 rfl (lv_at hl 1 rfl) ?_
      obtain ⟨c_5, hf⟩ := gi_e hf
      refine va_iald hx hb hK hP 4 0 cM_at4 rfl c_5 dX5_goesTide_86 ?_
      refine lv_if_le (tgt := 94) hx hb dX5_goesTide_87 (by decide) (fun c_6 => ?_) (fun c_6 => ?_)
      · replace hf := if_t c_6 hf
        refine lv_iconst (v := 0) hx hb dX5_goesTide_94 (by decide) ?_
        refine lv_isub hx hb dX5_goesTide_95 ?_
        obtain ⟨c_7, hf⟩ := gi_e hf
        refine va_iast hx hb hK hP hD hS 4 0 cM_at4 rfl c_7 dX5_goesTide_96 (fun H locs hP hD hS => ?_)
        obtain ⟨h_8, eh_8, hf⟩ := nq_e hf
        rw [cM_su4, ← eh_8] at hP hD
        obtain ⟨v_9, ev_9, hf⟩ := nq_e hf
        refine lv_iinc (v := v_9) (lv' := [(1, .int v_9), (0, .ref (A 0))]) hx hb dX5_goesTide_97 hl (k := 1) rfl (by rw [ev_9]; rfl) (by decide) rfl (fun ls hl => ?_)
        refine lv_goto (tgt := 66) hx hb dX5_goesTide_100 (by decide) ?_
        exact ih66 (v_9, h_8) hf H locs ls hP hD hS (lv_sub hl [1, 0] rfl)
      · replace hf := if_f c_6 hf
        refine lv_iconst (v := 1) hx hb dX5_goesTide_90 (by decide) ?_
        refine lv_goto (tgt := 95) hx hb dX5_goesTide_91 (by decide) ?_
        refine lv_isub hx hb dX5_goesTide_95 ?_
        obtain ⟨c_10, hf⟩ := gi_e hf
        refine va_iast hx hb hK hP hD hS 4 0 cM_at4 rfl c_10 dX5_goesTide_96 (fun H locs hP hD hS => ?_)
        obtain ⟨h_11, eh_11, hf⟩ := nq_e hf
        rw [cM_su4, ← eh_11] at hP hD
        obtain ⟨v_12, ev_12, hf⟩ := nq_e hf
        refine lv_iinc (v := v_12) (lv' := [(1, .int v_12), (0, .ref (A 0))]) hx hb dX5_goesTide_97 hl (k := 1) rfl (by rw [ev_12]; rfl) (by decide) rfl (fun ls hl => ?_)
        refine lv_goto (tgt := 66) hx hb dX5_goesTide_100 (by decide) ?_
        exact ih66 (v_12, h_11) hf H locs ls hP hD hS (lv_sub hl [1, 0] rfl)
  · replace hf := if_f c_2 hf
    refine lv_aload_n hx hb dX5_goesTide_20 rfl (lv_at hl 0 rfl) ?_
    refine va_get (D := D) (ci := 5) (v := .ref (A 4)) (C := RX5) (T := TX5) (N := 27) hx hb hts hw5 hown hK hP 0 cM_at0 rfl 3 (by decide) k19 (fun _ h9 => h9) rfl dX5_goesTide_21 ?_
    refine lv_aload_n hx hb dX5_goesTide_24 rfl (lv_at hl 0 rfl) ?_
    refine va_get (D := D) (ci := 5) (v := .ref (A 8)) (C := RX5) (T := TX5) (N := 27) hx hb hts hw5 hown hK hP 0 cM_at0 rfl 7 (by decide) k31 (fun _ h9 => h9) rfl dX5_goesTide_25 ?_
    refine lv_iload_n hx hb dX5_goesTide_28 rfl (lv_at hl 1 rfl) ?_
    obtain ⟨c_13, hf⟩ := gi_e hf
    refine va_iald hx hb hK hP 8 0 cM_at8 rfl c_13 dX5_goesTide_29 ?_
    obtain ⟨c_14, hf⟩ := gi_e hf
    refine va_iald hx hb hK hP 4 0 cM_at4 rfl c_14 dX5_goesTide_30 ?_
    refine lv_if_le (tgt := 58) hx hb dX5_goesTide_31 (by decide) (fun c_15 => ?_) (fun c_15 => ?_)
    · replace hf := if_t c_15 hf
      obtain ⟨v_16, ev_16, hf⟩ := nq_e hf
      refine lv_iinc (v := v_16) (lv' := [(1, .int v_16), (0, .ref (A 0))]) hx hb dX5_goesTide_58 hl (k := 1) rfl (by rw [ev_16]; rfl) (by decide) rfl (fun ls hl => ?_)
      refine lv_goto (tgt := 12) hx hb dX5_goesTide_61 (by decide) ?_
      exact ih12 (v_16, q12.2) hf H locs ls hP hD hS (lv_sub hl [1, 0] rfl)
    · replace hf := if_f c_15 hf
      refine lv_aload_n hx hb dX5_goesTide_34 rfl (lv_at hl 0 rfl) ?_
      refine va_get (D := D) (ci := 5) (v := .ref (A 7)) (C := RX5) (T := TX5) (N := 27) hx hb hts hw5 hown hK hP 0 cM_at0 rfl 6 (by decide) k28 (fun _ h9 => h9) rfl dX5_goesTide_35 ?_
      refine lv_iload_n hx hb dX5_goesTide_38 rfl (lv_at hl 1 rfl) ?_
      refine lv_aload_n hx hb dX5_goesTide_39 rfl (lv_at hl 0 rfl) ?_
      refine va_get (D := D) (ci := 5) (v := .ref (A 7)) (C := RX5) (T := TX5) (N := 27) hx hb hts hw5 hown hK hP 0 cM_at0 rfl 6 (by decide) k28 (fun _ h9 => h9) rfl dX5_goesTide_40 ?_
      refine lv_iload_n hx hb dX5_goesTide_43 rfl (lv_at hl 1 rfl) ?_
      obtain ⟨c_17, hf⟩ := gi_e hf
      refine va_iald hx hb hK hP 7 0 cM_at7 rfl c_17 dX5_goesTide_44 ?_
      refine lv_aload_n hx hb dX5_goesTide_45 rfl (lv_at hl 0 rfl) ?_
      refine lv_iload_n hx hb dX5_goesTide_46 rfl (lv_at hl 1 rfl) ?_
      obtain ⟨a_18, ha_18, hf⟩ := bd_e hf
      refine Ct.callV (As := [.int q12.1]) (rest := [.int (q12.2 6 (q12.1).toNatClampNeg), .int q12.1, .ref (A 7)]) (st1 := [.int a_18, .int (q12.2 6 (q12.1).toNatClampNeg), .int q12.1, .ref (A 7)]) (c_X5_moreSins l D cI A q12.2 q12.1 a_18 ha_18) hx hb hml hown hts (cwV 1 hts gX5_goesTide_X5_moreSins rfl rfl rfl hd_X5_moreSins ⟨Nat.le_of_ble_eq_true rfl, Nat.le_of_ble_eq_true rfl⟩) (va_recv hK hP (ci := 5) (q0 := 0) rfl cM_at0) (Ln.id rfl) hA hK hP hD hS rfl hl.1 rfl rfl (Nat.le_of_ble_eq_true rfl) dX5_goesTide_47 (fun H locs hP hD hS => ?_)
      refine lv_iadd hx hb dX5_goesTide_50 ?_
      refine lv_iconst (v := 0) hx hb dX5_goesTide_51 (by decide) ?_
      refine lv_bipush (v := 9) hx hb dX5_goesTide_52 (by decide +kernel) ?_
      obtain ⟨a_19, ha_19, hf⟩ := bd_e hf
      refine Ct.callS (As := [.int ((q12.2 6 (q12.1).toNatClampNeg) + a_18), .int (0 : Int32), .int (9 : Int32)]) (rest := [.int q12.1, .ref (A 7)]) (st1 := [.int a_19, .int q12.1, .ref (A 7)]) (c_X5_held l D cI  ((q12.2 6 (q12.1).toNatClampNeg) + a_18) (0 : Int32) (9 : Int32) a_19 ha_19) hx hb hml hown hts (va_cwS 3 hts gX5_goesTide_X5_held rfl rfl rfl hd_X5_held ⟨Nat.le_of_ble_eq_true rfl, Nat.le_of_ble_eq_true rfl⟩) Ln.nil hA hK hP hD hS rfl hl.1 rfl rfl (Nat.le_of_ble_eq_true rfl) dX5_goesTide_54 (fun H locs hP hD hS => ?_)
      obtain ⟨c_20, hf⟩ := gi_e hf
      refine va_iast hx hb hK hP hD hS 7 0 cM_at7 rfl c_20 dX5_goesTide_57 (fun H locs hP hD hS => ?_)
      obtain ⟨h_21, eh_21, hf⟩ := nq_e hf
      rw [cM_su7, ← eh_21] at hP hD
      obtain ⟨v_22, ev_22, hf⟩ := nq_e hf
      refine lv_iinc (v := v_22) (lv' := [(1, .int v_22), (0, .ref (A 0))]) hx hb dX5_goesTide_58 hl (k := 1) rfl (by rw [ev_22]; rfl) (by decide) rfl (fun ls hl => ?_)
      refine lv_goto (tgt := 12) hx hb dX5_goesTide_61 (by decide) ?_
      exact ih12 (v_22, h_21) hf H locs ls hP hD hS (lv_sub hl [1, 0] rfl)

def rm_X5_goes : Room := { frames := 2, cells := 0, slots := 0, locals := 43 }
theorem hd_X5_goes : yX5_goes.cls = RX5 ∧ yX5_goes.cls ≠ "java/lang/invoke/MethodHandle" ∧ yX5_goes.cls ≠ "java/lang/invoke/VarHandle" ∧ (parseMethodDescriptor yX5_goes.desc).map (fun d => d.parameters.length) = some 1 := by decide +kernel
set_option maxRecDepth 100000 in
set_option maxHeartbeats 4000000 in
theorem c_X5_goes (l : Launch) (D : va_G) (cI : ClassId) (A : Nat → Nat) (M : St) (p1 : Int32) (r : St) (hf : f_X5_goes M p1 = some r) : Ct l yX5_goes wsX5_goes rm_X5_goes D cI (cM cI A M) (cM cI A r) [.ref (A 0), .int p1] none := by
  unfold f_X5_goes at hf
  refine Ct.ofV (cc := cX5_goes) (maxL := 3) (by decide +kernel) rfl (Nat.le_of_ble_eq_true rfl) ?_
  intro p e s m args below meth c AA Q H locs ls hx hb hml hown hts hA hK hP hD hS hl hend0
  have hend : ∀ (r1 : St) (H : Heap) (locs : List Loc) (pc : Nat) (ls : Array Slot), some r1 = some r → va_P D vwCl (cM cI A r1) H → va_S AA s.heap H locs → decode cX5_goes pc = .ok (.return_, 1) → W p l e rm_X5_goes s m args below meth c H locs 0 0 Q (F0 m pc ls []) := by
    intro r1 H locs pc ls e1 hP hS hd; cases e1; exact hend0 H locs pc ls hP hS hd
  clear hend0
  replace hl : lv_has ls 3 [(0, .ref (A 0)), (1, .int p1)] := hl
  refine lv_iconst (v := 0) hx hb dX5_goes_0 (by decide) ?_
  refine lv_istore_n (lv' := [(2, .int (0 : Int32)), (0, .ref (A 0)), (1, .int p1)]) hx hb dX5_goes_1 rfl hl (by decide) rfl (fun ls hl => ?_)
  refine lp_ind (P := fun (q2 : Int32 × St) => ∀ (H : Heap) (locs : List Loc) (ls : Array Slot), va_P D vwCl (cM cI A q2.2) H → va_D AA (cM cI A q2.2) → va_S AA s.heap H locs → lv_has ls 3 [(0, .ref (A 0)), (1, .int p1), (2, .int q2.1)] → W p l e rm_X5_goes s m args below meth c H locs 0 0 Q (F0 m 2 ls [])) hf ?_ H locs ls hP hD hS (lv_sub hl [1, 2, 0] rfl)
  clear hf hP hD hS hl
  intro nx2 ih2 q2 hf H locs ls hP hD hS hl
  refine lv_iload_n hx hb dX5_goes_2 rfl (lv_at hl 2 rfl) ?_
  refine lv_iload_n hx hb dX5_goes_3 rfl (lv_at hl 1 rfl) ?_
  refine lv_icmp_ge (tgt := 17) hx hb dX5_goes_4 (by decide) (fun c_1 => ?_) (fun c_1 => ?_)
  · replace hf := if_t c_1 hf
    exact hend q2.2 H locs _ _ hf hP hS dX5_goes_17
  · replace hf := if_f c_1 hf
    refine lv_aload_n hx hb dX5_goes_7 rfl (lv_at hl 0 rfl) ?_
    obtain ⟨a_2, ha_2, hf⟩ := bd_e hf
    refine Ct.callV (As := []) (rest := []) (st1 := []) (c_X5_goesTide l D cI A q2.2 a_2 ha_2) hx hb hml hown hts (cwV 0 hts gX5_goes_X5_goesTide rfl rfl rfl hd_X5_goesTide ⟨Nat.le_of_ble_eq_true rfl, Nat.le_of_ble_eq_true rfl⟩) (va_recv hK hP (ci := 5) (q0 := 0) rfl cM_at0) (Ln.id rfl) hA hK hP hD hS rfl hl.1 rfl rfl (Nat.le_of_ble_eq_true rfl) dX5_goes_8 (fun H locs hP hD hS => ?_)
    replace hP : va_P D vwCl (cM cI A a_2) H := hP
    replace hD : va_D AA (cM cI A a_2) := hD
    obtain ⟨v_3, ev_3, hf⟩ := nq_e hf
    refine lv_iinc (v := v_3) (lv' := [(2, .int v_3), (0, .ref (A 0)), (1, .int p1)]) hx hb dX5_goes_11 hl (k := 2) rfl (by rw [ev_3]; rfl) (by decide) rfl (fun ls hl => ?_)
    refine lv_goto (tgt := 2) hx hb dX5_goes_14 (by decide) ?_
    exact ih2 (v_3, a_2) hf H locs ls hP hD hS (lv_sub hl [1, 2, 0] rfl)

def rm_X5_comesTides : Room := { frames := 3, cells := 0, slots := 0, locals := 65 }
theorem hd_X5_comesTides : yX5_comesTides.cls = RX5 ∧ yX5_comesTides.cls ≠ "java/lang/invoke/MethodHandle" ∧ yX5_comesTides.cls ≠ "java/lang/invoke/VarHandle" ∧ (parseMethodDescriptor yX5_comesTides.desc).map (fun d => d.parameters.length) = some 1 := by decide +kernel
set_option maxRecDepth 100000 in
set_option maxHeartbeats 4000000 in
theorem c_X5_comesTides (l : Launch) (D : va_G) (cI : ClassId) (A : Nat → Nat) (M : St) (p1 : Int32) (r : Int32 × St) (hf : f_X5_comesTides M p1 = some r) : Ct l yX5_comesTides wsX5_comesTides rm_X5_comesTides D cI (cM cI A M) (cM cI A r.2) [.ref (A 0), .int p1] (some (.int r.1)) := by
  unfold f_X5_comesTides at hf
  obtain ⟨hz, hf⟩ := fzp_e hf
  refine Ct.ofZ hz (cc := cX5_comesTides) (maxL := 2) (by decide +kernel) rfl (Nat.le_of_ble_eq_true rfl) ?_
  intro p e s m args below meth c AA Q H locs ls hx hb hml hown hts hA hK hP hD hS hl hend0
  have hend : ∀ (r1 : Int32 × St) (H : Heap) (locs : List Loc) (pc : Nat) (ls : Array Slot), some r1 = some r → va_P D vwCl (cM cI A r1.2) H → va_S AA s.heap H locs → decode cX5_comesTides pc = .ok (.ireturn, 1) → W p l e rm_X5_comesTides s m args below meth c H locs 0 0 Q (F0 m pc ls [.int r1.1]) := by
    intro r1 H locs pc ls e1 hP hS hd; cases e1; exact hend0 H locs pc ls hP hS hd
  clear hend0
  have hw5 : ∀ w ∈ wsX50, w ∈ wsX5_comesTides := by decide +kernel
  have k110 := hts (.fieldLink RX5 110 "AnchorsForConfessionModel" "tide" "I") (by decide +kernel)
  replace hl : lv_has ls 2 [(0, .ref (A 0)), (1, .int p1)] := hl
  refine lv_iload_n hx hb dX5_comesTides_0 rfl (lv_at hl 1 rfl) ?_
  refine lv_iconst (v := 1) hx hb dX5_comesTides_1 (by decide) ?_
  refine lv_bipush (v := 60) hx hb dX5_comesTides_2 (by decide +kernel) ?_
  obtain ⟨a_1, ha_1, hf⟩ := bd_e hf
  refine Ct.callS (As := [.int p1, .int (1 : Int32), .int (60 : Int32)]) (rest := []) (st1 := [.int a_1]) (c_X5_isIn l D cI  p1 (1 : Int32) (60 : Int32) a_1 ha_1) hx hb hml hown hts (va_cwS 3 hts gX5_comesTides_X5_isIn rfl rfl rfl hd_X5_isIn ⟨Nat.le_of_ble_eq_true rfl, Nat.le_of_ble_eq_true rfl⟩) Ln.nil hA hK hP hD hS rfl hl.1 rfl rfl (Nat.le_of_ble_eq_true rfl) dX5_comesTides_4 (fun H locs hP hD hS => ?_)
  refine lv_if_eq (tgt := 22) hx hb dX5_comesTides_7 (by decide) (fun c_2 => ?_) (fun c_2 => ?_)
  · replace hf := if_t c_2 hf
    refine lv_iconst (v := 0) hx hb dX5_comesTides_22 (by decide) ?_
    exact hend ((0 : Int32), M) H locs _ _ hf hP hS dX5_comesTides_23
  · replace hf := if_f c_2 hf
    refine lv_aload_n hx hb dX5_comesTides_10 rfl (lv_at hl 0 rfl) ?_
    refine va_get (D := D) (ci := 5) (v := .int (M 16 3)) (C := RX5) (T := TX5) (N := 27) hx hb hts hw5 hown hK hP 0 cM_at0 rfl 11 (by decide) k110 (fun _ h9 => h9) rfl dX5_comesTides_11 ?_
    refine lv_iload_n hx hb dX5_comesTides_14 rfl (lv_at hl 1 rfl) ?_
    refine lv_iadd hx hb dX5_comesTides_15 ?_
    refine lv_sipush (v := 999) hx hb dX5_comesTides_16 (by decide +kernel) ?_
    refine lv_icmp_le (tgt := 24) hx hb dX5_comesTides_19 (by decide) (fun c_3 => ?_) (fun c_3 => ?_)
    · replace hf := if_t c_3 hf
      refine lv_aload_n hx hb dX5_comesTides_24 rfl (lv_at hl 0 rfl) ?_
      refine lv_iload_n hx hb dX5_comesTides_25 rfl (lv_at hl 1 rfl) ?_
      obtain ⟨a_4, ha_4, hf⟩ := bd_e hf
      refine Ct.callV (As := [.int p1]) (rest := []) (st1 := []) (c_X5_goes l D cI A M p1 a_4 ha_4) hx hb hml hown hts (cwV 1 hts gX5_comesTides_X5_goes rfl rfl rfl hd_X5_goes ⟨Nat.le_of_ble_eq_true rfl, Nat.le_of_ble_eq_true rfl⟩) (va_recv hK hP (ci := 5) (q0 := 0) rfl cM_at0) (Ln.id rfl) hA hK hP hD hS rfl hl.1 rfl rfl (Nat.le_of_ble_eq_true rfl) dX5_comesTides_26 (fun H locs hP hD hS => ?_)
      replace hP : va_P D vwCl (cM cI A a_4) H := hP
      replace hD : va_D AA (cM cI A a_4) := hD
      refine lv_iconst (v := 1) hx hb dX5_comesTides_29 (by decide) ?_
      exact hend ((1 : Int32), a_4) H locs _ _ hf hP hS dX5_comesTides_30
    · replace hf := if_f c_3 hf
      refine lv_iconst (v := 0) hx hb dX5_comesTides_22 (by decide) ?_
      exact hend ((0 : Int32), M) H locs _ _ hf hP hS dX5_comesTides_23

def rm_X5_canTell : Room := { frames := 1, cells := 0, slots := 0, locals := 21 }
theorem hd_X5_canTell : yX5_canTell.cls = RX5 ∧ yX5_canTell.cls ≠ "java/lang/invoke/MethodHandle" ∧ yX5_canTell.cls ≠ "java/lang/invoke/VarHandle" ∧ (parseMethodDescriptor yX5_canTell.desc).map (fun d => d.parameters.length) = some 1 := by decide +kernel
set_option maxRecDepth 100000 in
set_option maxHeartbeats 4000000 in
theorem c_X5_canTell (l : Launch) (D : va_G) (cI : ClassId) (A : Nat → Nat) (M : St) (p1 : Int32) (r : Int32) (hf : f_X5_canTell M p1 = some r) : Ct l yX5_canTell wsX5_canTell rm_X5_canTell D cI (cM cI A M) (cM cI A M) [.ref (A 0), .int p1] (some (.int r)) := by
  unfold f_X5_canTell at hf
  obtain ⟨hz, hf⟩ := fz_e hf
  refine Ct.ofZ hz (cc := cX5_canTell) (maxL := 2) (by decide +kernel) rfl (Nat.le_of_ble_eq_true rfl) ?_
  intro p e s m args below meth c AA Q H locs ls hx hb hml hown hts hA hK hP hD hS hl hend0
  have hend : ∀ (r1 : Int32) (H : Heap) (locs : List Loc) (pc : Nat) (ls : Array Slot), some r1 = some r → va_P D vwCl (cM cI A M) H → va_S AA s.heap H locs → decode cX5_canTell pc = .ok (.ireturn, 1) → W p l e rm_X5_canTell s m args below meth c H locs 0 0 Q (F0 m pc ls [.int r1]) := by
    intro r1 H locs pc ls e1 hP hS hd; cases e1; exact hend0 H locs pc ls hP hS hd
  clear hend0
  have hw5 : ∀ w ∈ wsX50, w ∈ wsX5_canTell := by decide +kernel
  have k19 := hts (.fieldLink RX5 19 "AnchorsForConfessionModel" "out" "[I") (by decide +kernel)
  have k28 := hts (.fieldLink RX5 28 "AnchorsForConfessionModel" "sins" "[I") (by decide +kernel)
  have k31 := hts (.fieldLink RX5 31 "AnchorsForConfessionModel" "aboard" "[I") (by decide +kernel)
  replace hl : lv_has ls 2 [(0, .ref (A 0)), (1, .int p1)] := hl
  refine lv_aload_n hx hb dX5_canTell_0 rfl (lv_at hl 0 rfl) ?_
  refine lv_iload_n hx hb dX5_canTell_1 rfl (lv_at hl 1 rfl) ?_
  obtain ⟨a_1, ha_1, hf⟩ := bd_e hf
  refine Ct.callV (As := [.int p1]) (rest := []) (st1 := [.int a_1]) (c_X5_isMan l D cI A M p1 a_1 ha_1) hx hb hml hown hts (cwV 1 hts gX5_canTell_X5_isMan rfl rfl rfl hd_X5_isMan ⟨Nat.le_of_ble_eq_true rfl, Nat.le_of_ble_eq_true rfl⟩) (va_recv hK hP (ci := 5) (q0 := 0) rfl cM_at0) (Ln.id rfl) hA hK hP hD hS rfl hl.1 rfl rfl (Nat.le_of_ble_eq_true rfl) dX5_canTell_2 (fun H locs hP hD hS => ?_)
  refine lv_if_eq (tgt := 35) hx hb dX5_canTell_5 (by decide) (fun c_2 => ?_) (fun c_2 => ?_)
  · replace hf := if_t c_2 hf
    refine lv_iconst (v := 0) hx hb dX5_canTell_35 (by decide) ?_
    exact hend (0 : Int32) H locs _ _ hf hP hS dX5_canTell_36
  · replace hf := if_f c_2 hf
    refine lv_aload_n hx hb dX5_canTell_8 rfl (lv_at hl 0 rfl) ?_
    refine va_get (D := D) (ci := 5) (v := .ref (A 7)) (C := RX5) (T := TX5) (N := 27) hx hb hts hw5 hown hK hP 0 cM_at0 rfl 6 (by decide) k28 (fun _ h9 => h9) rfl dX5_canTell_9 ?_
    refine lv_iload_n hx hb dX5_canTell_12 rfl (lv_at hl 1 rfl) ?_
    obtain ⟨c_3, hf⟩ := gi_e hf
    refine va_iald hx hb hK hP 7 0 cM_at7 rfl c_3 dX5_canTell_13 ?_
    refine lv_if_le (tgt := 35) hx hb dX5_canTell_14 (by decide) (fun c_4 => ?_) (fun c_4 => ?_)
    · replace hf := if_t c_4 hf
      refine lv_iconst (v := 0) hx hb dX5_canTell_35 (by decide) ?_
      exact hend (0 : Int32) H locs _ _ hf hP hS dX5_canTell_36
    · replace hf := if_f c_4 hf
      refine lv_aload_n hx hb dX5_canTell_17 rfl (lv_at hl 0 rfl) ?_
      refine va_get (D := D) (ci := 5) (v := .ref (A 4)) (C := RX5) (T := TX5) (N := 27) hx hb hts hw5 hown hK hP 0 cM_at0 rfl 3 (by decide) k19 (fun _ h9 => h9) rfl dX5_canTell_18 ?_
      refine lv_aload_n hx hb dX5_canTell_21 rfl (lv_at hl 0 rfl) ?_
      refine va_get (D := D) (ci := 5) (v := .ref (A 8)) (C := RX5) (T := TX5) (N := 27) hx hb hts hw5 hown hK hP 0 cM_at0 rfl 7 (by decide) k31 (fun _ h9 => h9) rfl dX5_canTell_22 ?_
      refine lv_iload_n hx hb dX5_canTell_25 rfl (lv_at hl 1 rfl) ?_
      obtain ⟨c_5, hf⟩ := gi_e hf
      refine va_iald hx hb hK hP 8 0 cM_at8 rfl c_5 dX5_canTell_26 ?_
      obtain ⟨c_6, hf⟩ := gi_e hf
      refine va_iald hx hb hK hP 4 0 cM_at4 rfl c_6 dX5_canTell_27 ?_
      refine lv_if_ne (tgt := 35) hx hb dX5_canTell_28 (by decide) (fun c_7 => ?_) (fun c_7 => ?_)
      · replace hf := if_f c_7 hf
        refine lv_iconst (v := 0) hx hb dX5_canTell_35 (by decide) ?_
        exact hend (0 : Int32) H locs _ _ hf hP hS dX5_canTell_36
      · replace hf := if_t c_7 hf
        refine lv_iconst (v := 1) hx hb dX5_canTell_31 (by decide) ?_
        refine lv_goto (tgt := 36) hx hb dX5_canTell_32 (by decide) ?_
        exact hend (1 : Int32) H locs _ _ hf hP hS dX5_canTell_36

def rm_X5_worthOn : Room := { frames := 0, cells := 0, slots := 0, locals := 0 }
theorem hd_X5_worthOn : yX5_worthOn.cls = RX5 ∧ yX5_worthOn.cls ≠ "java/lang/invoke/MethodHandle" ∧ yX5_worthOn.cls ≠ "java/lang/invoke/VarHandle" ∧ (parseMethodDescriptor yX5_worthOn.desc).map (fun d => d.parameters.length) = some 2 := by decide +kernel
set_option maxRecDepth 100000 in
set_option maxHeartbeats 4000000 in
theorem c_X5_worthOn (l : Launch) (D : va_G) (cI : ClassId) (A : Nat → Nat) (M : St) (p1 : Int32) (p2 : Int32) (r : Int32) (hf : f_X5_worthOn M p1 p2 = some r) : Ct l yX5_worthOn wsX5_worthOn rm_X5_worthOn D cI (cM cI A M) (cM cI A M) [.ref (A 0), .int p1, .int p2] (some (.int r)) := by
  unfold f_X5_worthOn at hf
  refine Ct.ofI (cc := cX5_worthOn) (maxL := 5) (by decide +kernel) rfl (Nat.le_of_ble_eq_true rfl) ?_
  intro p e s m args below meth c AA Q H locs ls hx hb hml hown hts hA hK hP hD hS hl hend0
  have hend : ∀ (r1 : Int32) (H : Heap) (locs : List Loc) (pc : Nat) (ls : Array Slot), some r1 = some r → va_P D vwCl (cM cI A M) H → va_S AA s.heap H locs → decode cX5_worthOn pc = .ok (.ireturn, 1) → W p l e rm_X5_worthOn s m args below meth c H locs 0 0 Q (F0 m pc ls [.int r1]) := by
    intro r1 H locs pc ls e1 hP hS hd; cases e1; exact hend0 H locs pc ls hP hS hd
  clear hend0
  have hw5 : ∀ w ∈ wsX50, w ∈ wsX5_worthOn := by decide +kernel
  have k22 := hts (.fieldLink RX5 22 "AnchorsForConfessionModel" "kind" "[I") (by decide +kernel)
  have k25 := hts (.fieldLink RX5 25 "AnchorsForConfessionModel" "figure" "[I") (by decide +kernel)
  replace hl : lv_has ls 5 [(0, .ref (A 0)), (1, .int p1), (2, .int p2)] := hl
  refine lv_aload_n hx hb dX5_worthOn_0 rfl (lv_at hl 0 rfl) ?_
  refine va_get (D := D) (ci := 5) (v := .ref (A 6)) (C := RX5) (T := TX5) (N := 27) hx hb hts hw5 hown hK hP 0 cM_at0 rfl 5 (by decide) k25 (fun _ h9 => h9) rfl dX5_worthOn_1 ?_
  refine lv_iload_n hx hb dX5_worthOn_4 rfl (lv_at hl 1 rfl) ?_
  obtain ⟨c_1, hf⟩ := gi_e hf
  refine va_iald hx hb hK hP 6 0 cM_at6 rfl c_1 dX5_worthOn_5 ?_
  refine lv_iconst (v := 1) hx hb dX5_worthOn_6 (by decide) ?_
  refine lv_iadd hx hb dX5_worthOn_7 ?_
  refine lv_topi (fun v_2 ev_2 => ?_)
  replace hf := nm_at ev_2 hf
  refine lv_istore_n (lv' := [(3, .int v_2), (0, .ref (A 0)), (1, .int p1), (2, .int p2)]) hx hb dX5_worthOn_8 rfl hl (by decide) rfl (fun ls hl => ?_)
  refine lv_iload_n hx hb dX5_worthOn_9 rfl (lv_at hl 3 rfl) ?_
  refine lv_iconst (v := 2) hx hb dX5_worthOn_10 (by decide) ?_
  refine lv_irem hx hb dX5_worthOn_11 (by decide) ?_
  refine lv_iconst (v := 1) hx hb dX5_worthOn_12 (by decide) ?_
  refine lv_icmp_ne (tgt := 22) hx hb dX5_worthOn_13 (by decide) (fun c_4 => ?_) (fun c_4 => ?_)
  · replace hf := if_f c_4 hf
    refine lv_iload_n hx hb dX5_worthOn_22 rfl (lv_at hl 0 rfl) ?_
    refine lv_istore (lv' := [(4, .int v_2), (3, .int v_2), (0, .ref (A 0)), (1, .int p1), (2, .int p2)]) hx hb dX5_worthOn_23 hl (by decide) rfl (fun ls hl => ?_)
    refine lv_aload_n hx hb dX5_worthOn_25 rfl (lv_at hl 2 rfl) ?_
    refine va_get (D := D) (ci := 5) (v := .ref (A 5)) (C := RX5) (T := TX5) (N := 27) hx hb hts hw5 hown hK hP 0 cM_at0 rfl 4 (by decide) k22 (fun _ h9 => h9) rfl dX5_worthOn_26 ?_
    refine lv_iload_n hx hb dX5_worthOn_29 rfl (lv_at hl 3 rfl) ?_
    obtain ⟨c_5, hf⟩ := gi_e hf
    refine va_iald hx hb hK hP 5 0 cM_at5 rfl c_5 dX5_worthOn_30 ?_
    by_cases c_6 : (M 4 (p1).toNatClampNeg) = 1
    · replace hf := if_t c_6 hf
      refine lv_tableIn (off := 33) (tgt := 64) hx hb dX5_worthOn_31 (by rw [c_6]; decide +kernel) (by rw [c_6]; decide +kernel) (by rw [c_6]; decide +kernel) (by decide) ?_
      refine lv_iconst (v := 0) hx hb dX5_worthOn_64 (by decide) ?_
      exact hend (0 : Int32) H locs _ _ hf hP hS dX5_worthOn_65
    · replace hf := if_f c_6 hf
      by_cases c_7 : (M 4 (p1).toNatClampNeg) = 2
      · replace hf := if_t c_7 hf
        refine lv_tableIn (off := 35) (tgt := 66) hx hb dX5_worthOn_31 (by rw [c_7]; decide +kernel) (by rw [c_7]; decide +kernel) (by rw [c_7]; decide +kernel) (by decide) ?_
        refine lv_iload hx hb dX5_worthOn_66 (lv_at hl 0 rfl) ?_
        exact hend v_2 H locs _ _ hf hP hS dX5_worthOn_68
      · replace hf := if_f c_7 hf
        by_cases c_8 : (M 4 (p1).toNatClampNeg) = 3
        · replace hf := if_t c_8 hf
          refine lv_tableIn (off := 38) (tgt := 69) hx hb dX5_worthOn_31 (by rw [c_8]; decide +kernel) (by rw [c_8]; decide +kernel) (by rw [c_8]; decide +kernel) (by decide) ?_
          refine lv_iload_n hx hb dX5_worthOn_69 rfl (lv_at hl 1 rfl) ?_
          refine lv_iconst (v := 2) hx hb dX5_worthOn_70 (by decide) ?_
          refine lv_idiv hx hb dX5_worthOn_71 (by decide) ?_
          refine lv_iconst (v := 1) hx hb dX5_worthOn_72 (by decide) ?_
          refine lv_icmp_le (tgt := 82) hx hb dX5_worthOn_73 (by decide) (fun c_10 => ?_) (fun c_10 => ?_)
          · replace hf := if_t c_10 hf
            refine lv_iconst (v := 1) hx hb dX5_worthOn_82 (by decide) ?_
            exact hend (1 : Int32) H locs _ _ hf hP hS dX5_worthOn_83
          · replace hf := if_f c_10 hf
            refine lv_iload_n hx hb dX5_worthOn_76 rfl (lv_at hl 1 rfl) ?_
            refine lv_iconst (v := 2) hx hb dX5_worthOn_77 (by decide) ?_
            refine lv_idiv hx hb dX5_worthOn_78 (by decide) ?_
            refine lv_goto (tgt := 83) hx hb dX5_worthOn_79 (by decide) ?_
            exact hend (v_2 / (2 : Int32)) H locs _ _ hf hP hS dX5_worthOn_83
        · replace hf := if_f c_8 hf
          by_cases c_12 : (M 4 (p1).toNatClampNeg) = 4
          · replace hf := if_t c_12 hf
            refine lv_tableIn (off := 53) (tgt := 84) hx hb dX5_worthOn_31 (by rw [c_12]; decide +kernel) (by rw [c_12]; decide +kernel) (by rw [c_12]; decide +kernel) (by decide) ?_
            refine lv_iload hx hb dX5_worthOn_84 (lv_at hl 0 rfl) ?_
            refine lv_iconst (v := 3) hx hb dX5_worthOn_86 (by decide) ?_
            refine lv_iadd hx hb dX5_worthOn_87 ?_
            exact hend (v_2 + (3 : Int32)) H locs _ _ hf hP hS dX5_worthOn_88
          · replace hf := if_f c_12 hf
            by_cases c_13 : (M 4 (p1).toNatClampNeg) = 5
            · replace hf := if_t c_13 hf
              refine lv_tableIn (off := 33) (tgt := 64) hx hb dX5_worthOn_31 (by rw [c_13]; decide +kernel) (by rw [c_13]; decide +kernel) (by rw [c_13]; decide +kernel) (by decide) ?_
              refine lv_iconst (v := 0) hx hb dX5_worthOn_64 (by decide) ?_
              exact hend (0 : Int32) H locs _ _ hf hP hS dX5_worthOn_65
            · replace hf := if_f c_13 hf
              have ht : ((M 4 (p1).toNatClampNeg)).toInt < 1 ∨ 5 < ((M 4 (p1).toNatClampNeg)).toInt := by
                have t0 := lv_neT (a := 1) c_6 (by decide +kernel)
                have t1 := lv_neT (a := 2) c_7 (by decide +kernel)
                have t2 := lv_neT (a := 3) c_8 (by decide +kernel)
                have t3 := lv_neT (a := 4) c_12 (by decide +kernel)
                have t4 := lv_neT (a := 5) c_13 (by decide +kernel)
                omega
              refine lv_tableOut (tgt := 89) hx hb dX5_worthOn_31 ht (by decide) ?_
              refine lv_iload_n hx hb dX5_worthOn_89 rfl (lv_at hl 1 rfl) ?_
              exact hend v_2 H locs _ _ hf hP hS dX5_worthOn_90
  · replace hf := if_t c_4 hf
    refine lv_iconst (v := 2) hx hb dX5_worthOn_16 (by decide) ?_
    refine lv_iload_n hx hb dX5_worthOn_17 rfl (lv_at hl 0 rfl) ?_
    refine lv_imul hx hb dX5_worthOn_18 ?_
    refine lv_goto (tgt := 23) hx hb dX5_worthOn_19 (by decide) ?_
    refine lv_topi (fun v_14 ev_14 => ?_)
    replace hf := nm_at ev_14 hf
    refine lv_istore (lv' := [(4, .int v_14), (3, .int v_2), (0, .ref (A 0)), (1, .int p1), (2, .int p2)]) hx hb dX5_worthOn_23 hl (by decide) rfl (fun ls hl => ?_)
    refine lv_aload_n hx hb dX5_worthOn_25 rfl (lv_at hl 2 rfl) ?_
    refine va_get (D := D) (ci := 5) (v := .ref (A 5)) (C := RX5) (T := TX5) (N := 27) hx hb hts hw5 hown hK hP 0 cM_at0 rfl 4 (by decide) k22 (fun _ h9 => h9) rfl dX5_worthOn_26 ?_
    refine lv_iload_n hx hb dX5_worthOn_29 rfl (lv_at hl 3 rfl) ?_
    obtain ⟨c_15, hf⟩ := gi_e hf
    refine va_iald hx hb hK hP 5 0 cM_at5 rfl c_15 dX5_worthOn_30 ?_
    by_cases c_16 : (M 4 (p1).toNatClampNeg) = 1
    · replace hf := if_t c_16 hf
      refine lv_tableIn (off := 33) (tgt := 64) hx hb dX5_worthOn_31 (by rw [c_16]; decide +kernel) (by rw [c_16]; decide +kernel) (by rw [c_16]; decide +kernel) (by decide) ?_
      refine lv_iconst (v := 0) hx hb dX5_worthOn_64 (by decide) ?_
      exact hend (0 : Int32) H locs _ _ hf hP hS dX5_worthOn_65
    · replace hf := if_f c_16 hf
      by_cases c_17 : (M 4 (p1).toNatClampNeg) = 2
      · replace hf := if_t c_17 hf
        refine lv_tableIn (off := 35) (tgt := 66) hx hb dX5_worthOn_31 (by rw [c_17]; decide +kernel) (by rw [c_17]; decide +kernel) (by rw [c_17]; decide +kernel) (by decide) ?_
        refine lv_iload hx hb dX5_worthOn_66 (lv_at hl 0 rfl) ?_
        exact hend v_14 H locs _ _ hf hP hS dX5_worthOn_68
      · replace hf := if_f c_17 hf
        by_cases c_18 : (M 4 (p1).toNatClampNeg) = 3
        · replace hf := if_t c_18 hf
          refine lv_tableIn (off := 38) (tgt := 69) hx hb dX5_worthOn_31 (by rw [c_18]; decide +kernel) (by rw [c_18]; decide +kernel) (by rw [c_18]; decide +kernel) (by decide) ?_
          refine lv_iload_n hx hb dX5_worthOn_69 rfl (lv_at hl 1 rfl) ?_
          refine lv_iconst (v := 2) hx hb dX5_worthOn_70 (by decide) ?_
          refine lv_idiv hx hb dX5_worthOn_71 (by decide) ?_
          refine lv_iconst (v := 1) hx hb dX5_worthOn_72 (by decide) ?_
          refine lv_icmp_le (tgt := 82) hx hb dX5_worthOn_73 (by decide) (fun c_20 => ?_) (fun c_20 => ?_)
          · replace hf := if_t c_20 hf
            refine lv_iconst (v := 1) hx hb dX5_worthOn_82 (by decide) ?_
            exact hend (1 : Int32) H locs _ _ hf hP hS dX5_worthOn_83
          · replace hf := if_f c_20 hf
            refine lv_iload_n hx hb dX5_worthOn_76 rfl (lv_at hl 1 rfl) ?_
            refine lv_iconst (v := 2) hx hb dX5_worthOn_77 (by decide) ?_
            refine lv_idiv hx hb dX5_worthOn_78 (by decide) ?_
            refine lv_goto (tgt := 83) hx hb dX5_worthOn_79 (by decide) ?_
            exact hend (v_2 / (2 : Int32)) H locs _ _ hf hP hS dX5_worthOn_83
        · replace hf := if_f c_18 hf
          by_cases c_22 : (M 4 (p1).toNatClampNeg) = 4
          · replace hf := if_t c_22 hf
            refine lv_tableIn (off := 53) (tgt := 84) hx hb dX5_worthOn_31 (by rw [c_22]; decide +kernel) (by rw [c_22]; decide +kernel) (by rw [c_22]; decide +kernel) (by decide) ?_
            refine lv_iload hx hb dX5_worthOn_84 (lv_at hl 0 rfl) ?_
            refine lv_iconst (v := 3) hx hb dX5_worthOn_86 (by decide) ?_
            refine lv_iadd hx hb dX5_worthOn_87 ?_
            exact hend (v_14 + (3 : Int32)) H locs _ _ hf hP hS dX5_worthOn_88
          · replace hf := if_f c_22 hf
            by_cases c_23 : (M 4 (p1).toNatClampNeg) = 5
            · replace hf := if_t c_23 hf
              refine lv_tableIn (off := 33) (tgt := 64) hx hb dX5_worthOn_31 (by rw [c_23]; decide +kernel) (by rw [c_23]; decide +kernel) (by rw [c_23]; decide +kernel) (by decide) ?_
              refine lv_iconst (v := 0) hx hb dX5_worthOn_64 (by decide) ?_
              exact hend (0 : Int32) H locs _ _ hf hP hS dX5_worthOn_65
            · replace hf := if_f c_23 hf
              have ht : ((M 4 (p1).toNatClampNeg)).toInt < 1 ∨ 5 < ((M 4 (p1).toNatClampNeg)).toInt := by
                have t0 := lv_neT (a := 1) c_16 (by decide +kernel)
                have t1 := lv_neT (a := 2) c_17 (by decide +kernel)
                have t2 := lv_neT (a := 3) c_18 (by decide +kernel)
                have t3 := lv_neT (a := 4) c_22 (by decide +kernel)
                have t4 := lv_neT (a := 5) c_23 (by decide +kernel)
                omega
              refine lv_tableOut (tgt := 89) hx hb dX5_worthOn_31 ht (by decide) ?_
              refine lv_iload_n hx hb dX5_worthOn_89 rfl (lv_at hl 1 rfl) ?_
              exact hend v_2 H locs _ _ hf hP hS dX5_worthOn_90

def rm_X5_worth : Room := { frames := 1, cells := 0, slots := 0, locals := 24 }
theorem hd_X5_worth : yX5_worth.cls = RX5 ∧ yX5_worth.cls ≠ "java/lang/invoke/MethodHandle" ∧ yX5_worth.cls ≠ "java/lang/invoke/VarHandle" ∧ (parseMethodDescriptor yX5_worth.desc).map (fun d => d.parameters.length) = some 1 := by decide +kernel
set_option maxRecDepth 100000 in
set_option maxHeartbeats 4000000 in
theorem c_X5_worth (l : Launch) (D : va_G) (cI : ClassId) (A : Nat → Nat) (M : St) (p1 : Int32) (r : Int32) (hf : f_X5_worth M p1 = some r) : Ct l yX5_worth wsX5_worth rm_X5_worth D cI (cM cI A M) (cM cI A M) [.ref (A 0), .int p1] (some (.int r)) := by
  unfold f_X5_worth at hf
  refine Ct.ofI (cc := cX5_worth) (maxL := 2) (by decide +kernel) rfl (Nat.le_of_ble_eq_true rfl) ?_
  intro p e s m args below meth c AA Q H locs ls hx hb hml hown hts hA hK hP hD hS hl hend0
  have hend : ∀ (r1 : Int32) (H : Heap) (locs : List Loc) (pc : Nat) (ls : Array Slot), some r1 = some r → va_P D vwCl (cM cI A M) H → va_S AA s.heap H locs → decode cX5_worth pc = .ok (.ireturn, 1) → W p l e rm_X5_worth s m args below meth c H locs 0 0 Q (F0 m pc ls [.int r1]) := by
    intro r1 H locs pc ls e1 hP hS hd; cases e1; exact hend0 H locs pc ls hP hS hd
  clear hend0
  have hw5 : ∀ w ∈ wsX50, w ∈ wsX5_worth := by decide +kernel
  have k110 := hts (.fieldLink RX5 110 "AnchorsForConfessionModel" "tide" "I") (by decide +kernel)
  replace hl : lv_has ls 2 [(0, .ref (A 0)), (1, .int p1)] := hl
  refine lv_aload_n hx hb dX5_worth_0 rfl (lv_at hl 0 rfl) ?_
  refine lv_iload_n hx hb dX5_worth_1 rfl (lv_at hl 1 rfl) ?_
  refine lv_aload_n hx hb dX5_worth_2 rfl (lv_at hl 0 rfl) ?_
  refine va_get (D := D) (ci := 5) (v := .int (M 16 3)) (C := RX5) (T := TX5) (N := 27) hx hb hts hw5 hown hK hP 0 cM_at0 rfl 11 (by decide) k110 (fun _ h9 => h9) rfl dX5_worth_3 ?_
  obtain ⟨a_1, ha_1, hf⟩ := bd_e hf
  refine Ct.callV (As := [.int p1, .int (M 16 3)]) (rest := []) (st1 := [.int a_1]) (c_X5_worthOn l D cI A M p1 (M 16 3) a_1 ha_1) hx hb hml hown hts (cwV 2 hts gX5_worth_X5_worthOn rfl rfl rfl hd_X5_worthOn ⟨Nat.le_of_ble_eq_true rfl, Nat.le_of_ble_eq_true rfl⟩) (va_recv hK hP (ci := 5) (q0 := 0) rfl cM_at0) (Ln.id rfl) hA hK hP hD hS rfl hl.1 rfl rfl (Nat.le_of_ble_eq_true rfl) dX5_worth_6 (fun H locs hP hD hS => ?_)
  exact hend a_1 H locs _ _ hf hP hS dX5_worth_9

def rm_X5_heardOf : Room := { frames := 2, cells := 0, slots := 0, locals := 45 }
theorem hd_X5_heardOf : yX5_heardOf.cls = RX5 ∧ yX5_heardOf.cls ≠ "java/lang/invoke/MethodHandle" ∧ yX5_heardOf.cls ≠ "java/lang/invoke/VarHandle" ∧ (parseMethodDescriptor yX5_heardOf.desc).map (fun d => d.parameters.length) = some 1 := by decide +kernel
set_option maxRecDepth 100000 in
set_option maxHeartbeats 4000000 in
theorem c_X5_heardOf (l : Launch) (D : va_G) (cI : ClassId) (A : Nat → Nat) (M : St) (p1 : Int32) (r : Int32) (hf : f_X5_heardOf M p1 = some r) : Ct l yX5_heardOf wsX5_heardOf rm_X5_heardOf D cI (cM cI A M) (cM cI A M) [.ref (A 0), .int p1] (some (.int r)) := by
  unfold f_X5_heardOf at hf
  refine Ct.ofI (cc := cX5_heardOf) (maxL := 2) (by decide +kernel) rfl (Nat.le_of_ble_eq_true rfl) ?_
  intro p e s m args below meth c AA Q H locs ls hx hb hml hown hts hA hK hP hD hS hl hend0
  have hend : ∀ (r1 : Int32) (H : Heap) (locs : List Loc) (pc : Nat) (ls : Array Slot), some r1 = some r → va_P D vwCl (cM cI A M) H → va_S AA s.heap H locs → decode cX5_heardOf pc = .ok (.ireturn, 1) → W p l e rm_X5_heardOf s m args below meth c H locs 0 0 Q (F0 m pc ls [.int r1]) := by
    intro r1 H locs pc ls e1 hP hS hd; cases e1; exact hend0 H locs pc ls hP hS hd
  clear hend0
  have hw5 : ∀ w ∈ wsX50, w ∈ wsX5_heardOf := by decide +kernel
  have k22 := hts (.fieldLink RX5 22 "AnchorsForConfessionModel" "kind" "[I") (by decide +kernel)
  replace hl : lv_has ls 2 [(0, .ref (A 0)), (1, .int p1)] := hl
  refine lv_aload_n hx hb dX5_heardOf_0 rfl (lv_at hl 0 rfl) ?_
  refine va_get (D := D) (ci := 5) (v := .ref (A 5)) (C := RX5) (T := TX5) (N := 27) hx hb hts hw5 hown hK hP 0 cM_at0 rfl 4 (by decide) k22 (fun _ h9 => h9) rfl dX5_heardOf_1 ?_
  refine lv_iload_n hx hb dX5_heardOf_4 rfl (lv_at hl 1 rfl) ?_
  obtain ⟨c_1, hf⟩ := gi_e hf
  refine va_iald hx hb hK hP 5 0 cM_at5 rfl c_1 dX5_heardOf_5 ?_
  refine lv_iconst (v := 4) hx hb dX5_heardOf_6 (by decide) ?_
  refine lv_icmp_ne (tgt := 20) hx hb dX5_heardOf_7 (by decide) (fun c_2 => ?_) (fun c_2 => ?_)
  · replace hf := if_f c_2 hf
    refine lv_aload_n hx hb dX5_heardOf_20 rfl (lv_at hl 0 rfl) ?_
    refine va_get (D := D) (ci := 5) (v := .ref (A 5)) (C := RX5) (T := TX5) (N := 27) hx hb hts hw5 hown hK hP 0 cM_at0 rfl 4 (by decide) k22 (fun _ h9 => h9) rfl dX5_heardOf_21 ?_
    refine lv_iload_n hx hb dX5_heardOf_24 rfl (lv_at hl 1 rfl) ?_
    obtain ⟨c_3, hf⟩ := gi_e hf
    refine va_iald hx hb hK hP 5 0 cM_at5 rfl c_3 dX5_heardOf_25 ?_
    refine lv_iconst (v := 5) hx hb dX5_heardOf_26 (by decide) ?_
    refine lv_icmp_ne (tgt := 34) hx hb dX5_heardOf_27 (by decide) (fun c_4 => ?_) (fun c_4 => ?_)
    · replace hf := if_f c_4 hf
      refine lv_iconst (v := 0) hx hb dX5_heardOf_34 (by decide) ?_
      exact hend (0 : Int32) H locs _ _ hf hP hS dX5_heardOf_35
    · replace hf := if_t c_4 hf
      refine lv_iconst (v := 1) hx hb dX5_heardOf_30 (by decide) ?_
      refine lv_goto (tgt := 35) hx hb dX5_heardOf_31 (by decide) ?_
      exact hend (1 : Int32) H locs _ _ hf hP hS dX5_heardOf_35
  · replace hf := if_t c_2 hf
    refine lv_aload_n hx hb dX5_heardOf_10 rfl (lv_at hl 0 rfl) ?_
    refine lv_iload_n hx hb dX5_heardOf_11 rfl (lv_at hl 1 rfl) ?_
    obtain ⟨a_5, ha_5, hf⟩ := bd_e hf
    refine Ct.callV (As := [.int p1]) (rest := []) (st1 := [.int a_5]) (c_X5_worth l D cI A M p1 a_5 ha_5) hx hb hml hown hts (cwV 1 hts gX5_heardOf_X5_worth rfl rfl rfl hd_X5_worth ⟨Nat.le_of_ble_eq_true rfl, Nat.le_of_ble_eq_true rfl⟩) (va_recv hK hP (ci := 5) (q0 := 0) rfl cM_at0) (Ln.id rfl) hA hK hP hD hS rfl hl.1 rfl rfl (Nat.le_of_ble_eq_true rfl) dX5_heardOf_12 (fun H locs hP hD hS => ?_)
    refine lv_iconst (v := 3) hx hb dX5_heardOf_15 (by decide) ?_
    refine lv_idiv hx hb dX5_heardOf_16 (by decide) ?_
    refine lv_goto (tgt := 35) hx hb dX5_heardOf_17 (by decide) ?_
    exact hend (a_5 / (3 : Int32)) H locs _ _ hf hP hS dX5_heardOf_35

def rm_X5_holds : Room := { frames := 0, cells := 0, slots := 0, locals := 0 }
theorem hd_X5_holds : yX5_holds.cls = RX5 ∧ yX5_holds.cls ≠ "java/lang/invoke/MethodHandle" ∧ yX5_holds.cls ≠ "java/lang/invoke/VarHandle" ∧ (parseMethodDescriptor yX5_holds.desc).map (fun d => d.parameters.length) = some 1 := by decide +kernel
set_option maxRecDepth 100000 in
set_option maxHeartbeats 4000000 in
theorem c_X5_holds (l : Launch) (D : va_G) (cI : ClassId) (A : Nat → Nat) (M : St) (p1 : Int32) (r : Int32) (hf : f_X5_holds M p1 = some r) : Ct l yX5_holds wsX5_holds rm_X5_holds D cI (cM cI A M) (cM cI A M) [.ref (A 0), .int p1] (some (.int r)) := by
  unfold f_X5_holds at hf
  refine Ct.ofI (cc := cX5_holds) (maxL := 2) (by decide +kernel) rfl (Nat.le_of_ble_eq_true rfl) ?_
  intro p e s m args below meth c AA Q H locs ls hx hb hml hown hts hA hK hP hD hS hl hend0
  have hend : ∀ (r1 : Int32) (H : Heap) (locs : List Loc) (pc : Nat) (ls : Array Slot), some r1 = some r → va_P D vwCl (cM cI A M) H → va_S AA s.heap H locs → decode cX5_holds pc = .ok (.ireturn, 1) → W p l e rm_X5_holds s m args below meth c H locs 0 0 Q (F0 m pc ls [.int r1]) := by
    intro r1 H locs pc ls e1 hP hS hd; cases e1; exact hend0 H locs pc ls hP hS hd
  clear hend0
  have hw5 : ∀ w ∈ wsX50, w ∈ wsX5_holds := by decide +kernel
  have k13 := hts (.fieldLink RX5 13 "AnchorsForConfessionModel" "heavy" "[I") (by decide +kernel)
  have k110 := hts (.fieldLink RX5 110 "AnchorsForConfessionModel" "tide" "I") (by decide +kernel)
  have k160 := hts (.fieldLink RX5 160 "AnchorsForConfessionModel" "heard" "I") (by decide +kernel)
  replace hl : lv_has ls 2 [(0, .ref (A 0)), (1, .int p1)] := hl
  refine lv_iconst (v := 3) hx hb dX5_holds_0 (by decide) ?_
  refine lv_aload_n hx hb dX5_holds_1 rfl (lv_at hl 0 rfl) ?_
  refine va_get (D := D) (ci := 5) (v := .ref (A 2)) (C := RX5) (T := TX5) (N := 27) hx hb hts hw5 hown hK hP 0 cM_at0 rfl 1 (by decide) k13 (fun _ h9 => h9) rfl dX5_holds_2 ?_
  refine lv_iload_n hx hb dX5_holds_5 rfl (lv_at hl 1 rfl) ?_
  obtain ⟨c_1, hf⟩ := gi_e hf
  refine va_iald hx hb hK hP 2 0 cM_at2 rfl c_1 dX5_holds_6 ?_
  refine lv_imul hx hb dX5_holds_7 ?_
  refine lv_iconst (v := 2) hx hb dX5_holds_8 (by decide) ?_
  refine lv_iadd hx hb dX5_holds_9 ?_
  refine lv_aload_n hx hb dX5_holds_10 rfl (lv_at hl 0 rfl) ?_
  refine va_get (D := D) (ci := 5) (v := .int (M 16 3)) (C := RX5) (T := TX5) (N := 27) hx hb hts hw5 hown hK hP 0 cM_at0 rfl 11 (by decide) k110 (fun _ h9 => h9) rfl dX5_holds_11 ?_
  refine lv_iconst (v := 2) hx hb dX5_holds_14 (by decide) ?_
  refine lv_irem hx hb dX5_holds_15 (by decide) ?_
  refine lv_if_ne (tgt := 23) hx hb dX5_holds_16 (by decide) (fun c_3 => ?_) (fun c_3 => ?_)
  · replace hf := if_f c_3 hf
    refine lv_iconst (v := 0) hx hb dX5_holds_23 (by decide) ?_
    refine lv_iadd hx hb dX5_holds_24 ?_
    refine lv_aload_n hx hb dX5_holds_25 rfl (lv_at hl 0 rfl) ?_
    refine va_get (D := D) (ci := 5) (v := .int (M 16 2)) (C := RX5) (T := TX5) (N := 27) hx hb hts hw5 hown hK hP 0 cM_at0 rfl 10 (by decide) k160 (fun _ h9 => h9) rfl dX5_holds_26 ?_
    refine lv_bipush (v := 10) hx hb dX5_holds_29 (by decide +kernel) ?_
    refine lv_idiv hx hb dX5_holds_31 (by decide) ?_
    refine lv_iadd hx hb dX5_holds_32 ?_
    exact hend (((((3 : Int32) * (M 1 (p1).toNatClampNeg)) + (2 : Int32)) + (0 : Int32)) + ((M 16 2) / (10 : Int32))) H locs _ _ hf hP hS dX5_holds_33
  · replace hf := if_t c_3 hf
    refine lv_iconst (v := 2) hx hb dX5_holds_19 (by decide) ?_
    refine lv_goto (tgt := 24) hx hb dX5_holds_20 (by decide) ?_
    refine lv_iadd hx hb dX5_holds_24 ?_
    refine lv_aload_n hx hb dX5_holds_25 rfl (lv_at hl 0 rfl) ?_
    refine va_get (D := D) (ci := 5) (v := .int (M 16 2)) (C := RX5) (T := TX5) (N := 27) hx hb hts hw5 hown hK hP 0 cM_at0 rfl 10 (by decide) k160 (fun _ h9 => h9) rfl dX5_holds_26 ?_
    refine lv_bipush (v := 10) hx hb dX5_holds_29 (by decide +kernel) ?_
    refine lv_idiv hx hb dX5_holds_31 (by decide) ?_
    refine lv_iadd hx hb dX5_holds_32 ?_
    exact hend (((((3 : Int32) * (M 1 (p1).toNatClampNeg)) + (2 : Int32)) + (2 : Int32)) + ((M 16 2) / (10 : Int32))) H locs _ _ hf hP hS dX5_holds_33

def rm_X5_rises : Room := { frames := 1, cells := 0, slots := 0, locals := 21 }
theorem hd_X5_rises : yX5_rises.cls = RX5 ∧ yX5_rises.cls ≠ "java/lang/invoke/MethodHandle" ∧ yX5_rises.cls ≠ "java/lang/invoke/VarHandle" ∧ (parseMethodDescriptor yX5_rises.desc).map (fun d => d.parameters.length) = some 0 := by decide +kernel
set_option maxRecDepth 100000 in
set_option maxHeartbeats 4000000 in
theorem c_X5_rises (l : Launch) (D : va_G) (cI : ClassId) (A : Nat → Nat) (M : St) (r : Int32 × St) (hf : f_X5_rises M = some r) : Ct l yX5_rises wsX5_rises rm_X5_rises D cI (cM cI A M) (cM cI A r.2) [.ref (A 0)] (some (.int r.1)) := by
  unfold f_X5_rises at hf
  refine Ct.ofI (cc := cX5_rises) (maxL := 3) (by decide +kernel) rfl (Nat.le_of_ble_eq_true rfl) ?_
  intro p e s m args below meth c AA Q H locs ls hx hb hml hown hts hA hK hP hD hS hl hend0
  have hend : ∀ (r1 : Int32 × St) (H : Heap) (locs : List Loc) (pc : Nat) (ls : Array Slot), some r1 = some r → va_P D vwCl (cM cI A r1.2) H → va_S AA s.heap H locs → decode cX5_rises pc = .ok (.ireturn, 1) → W p l e rm_X5_rises s m args below meth c H locs 0 0 Q (F0 m pc ls [.int r1.1]) := by
    intro r1 H locs pc ls e1 hP hS hd; cases e1; exact hend0 H locs pc ls hP hS hd
  clear hend0
  have hw5 : ∀ w ∈ wsX50, w ∈ wsX5_rises := by decide +kernel
  have k16 := hts (.fieldLink RX5 16 "AnchorsForConfessionModel" "loose" "[I") (by decide +kernel)
  have k19 := hts (.fieldLink RX5 19 "AnchorsForConfessionModel" "out" "[I") (by decide +kernel)
  have k58 := hts (.fieldLink RX5 58 "AnchorsForConfessionModel" "ships" "I") (by decide +kernel)
  replace hl : lv_has ls 3 [(0, .ref (A 0))] := hl
  refine lv_iconst (v := 0) hx hb dX5_rises_0 (by decide) ?_
  refine lv_istore_n (lv' := [(1, .int (0 : Int32)), (0, .ref (A 0))]) hx hb dX5_rises_1 rfl hl (by decide) rfl (fun ls hl => ?_)
  refine lv_iconst (v := 0) hx hb dX5_rises_2 (by decide) ?_
  refine lv_istore_n (lv' := [(2, .int (0 : Int32)), (1, .int (0 : Int32)), (0, .ref (A 0))]) hx hb dX5_rises_3 rfl hl (by decide) rfl (fun ls hl => ?_)
  refine lp_ind (P := fun (q4 : Int32 × Int32 × St) => ∀ (H : Heap) (locs : List Loc) (ls : Array Slot), va_P D vwCl (cM cI A q4.2.2) H → va_D AA (cM cI A q4.2.2) → va_S AA s.heap H locs → lv_has ls 3 [(0, .ref (A 0)), (1, .int q4.1), (2, .int q4.2.1)] → W p l e rm_X5_rises s m args below meth c H locs 0 0 Q (F0 m 4 ls [])) hf ?_ H locs ls hP hD hS (lv_sub hl [2, 1, 0] rfl)
  clear hf hP hD hS hl
  intro nx4 ih4 q4 hf H locs ls hP hD hS hl
  refine lv_iload_n hx hb dX5_rises_4 rfl (lv_at hl 2 rfl) ?_
  refine lv_aload_n hx hb dX5_rises_5 rfl (lv_at hl 0 rfl) ?_
  refine va_get (D := D) (ci := 5) (v := .int (q4.2.2 16 0)) (C := RX5) (T := TX5) (N := 27) hx hb hts hw5 hown hK hP 0 cM_at0 rfl 8 (by decide) k58 (fun _ h9 => h9) rfl dX5_rises_6 ?_
  refine lv_icmp_ge (tgt := 61) hx hb dX5_rises_9 (by decide) (fun c_1 => ?_) (fun c_1 => ?_)
  · replace hf := if_t c_1 hf
    refine lv_iload_n hx hb dX5_rises_61 rfl (lv_at hl 1 rfl) ?_
    exact hend (q4.1, q4.2.2) H locs _ _ hf hP hS dX5_rises_62
  · replace hf := if_f c_1 hf
    refine lv_aload_n hx hb dX5_rises_12 rfl (lv_at hl 0 rfl) ?_
    refine va_get (D := D) (ci := 5) (v := .ref (A 4)) (C := RX5) (T := TX5) (N := 27) hx hb hts hw5 hown hK hP 0 cM_at0 rfl 3 (by decide) k19 (fun _ h9 => h9) rfl dX5_rises_13 ?_
    refine lv_iload_n hx hb dX5_rises_16 rfl (lv_at hl 2 rfl) ?_
    obtain ⟨c_2, hf⟩ := gi_e hf
    refine va_iald hx hb hK hP 4 0 cM_at4 rfl c_2 dX5_rises_17 ?_
    refine lv_if_gt (tgt := 55) hx hb dX5_rises_18 (by decide) (fun c_3 => ?_) (fun c_3 => ?_)
    · replace hf := if_t c_3 hf
      obtain ⟨v_4, ev_4, hf⟩ := nq_e hf
      refine lv_iinc (v := v_4) (lv' := [(2, .int v_4), (0, .ref (A 0)), (1, .int q4.1)]) hx hb dX5_rises_55 hl (k := 2) rfl (by rw [ev_4]; rfl) (by decide) rfl (fun ls hl => ?_)
      refine lv_goto (tgt := 4) hx hb dX5_rises_58 (by decide) ?_
      exact ih4 (q4.1, v_4, q4.2.2) hf H locs ls hP hD hS (lv_sub hl [1, 2, 0] rfl)
    · replace hf := if_f c_3 hf
      refine lv_aload_n hx hb dX5_rises_21 rfl (lv_at hl 0 rfl) ?_
      refine va_get (D := D) (ci := 5) (v := .ref (A 3)) (C := RX5) (T := TX5) (N := 27) hx hb hts hw5 hown hK hP 0 cM_at0 rfl 2 (by decide) k16 (fun _ h9 => h9) rfl dX5_rises_22 ?_
      refine lv_iload_n hx hb dX5_rises_25 rfl (lv_at hl 2 rfl) ?_
      obtain ⟨c_5, hf⟩ := gi_e hf
      refine va_iald hx hb hK hP 3 0 cM_at3 rfl c_5 dX5_rises_26 ?_
      refine lv_aload_n hx hb dX5_rises_27 rfl (lv_at hl 0 rfl) ?_
      refine lv_iload_n hx hb dX5_rises_28 rfl (lv_at hl 2 rfl) ?_
      obtain ⟨a_6, ha_6, hf⟩ := bd_e hf
      refine Ct.callV (As := [.int q4.2.1]) (rest := [.int (q4.2.2 2 (q4.2.1).toNatClampNeg)]) (st1 := [.int a_6, .int (q4.2.2 2 (q4.2.1).toNatClampNeg)]) (c_X5_holds l D cI A q4.2.2 q4.2.1 a_6 ha_6) hx hb hml hown hts (cwV 1 hts gX5_rises_X5_holds rfl rfl rfl hd_X5_holds ⟨Nat.le_of_ble_eq_true rfl, Nat.le_of_ble_eq_true rfl⟩) (va_recv hK hP (ci := 5) (q0 := 0) rfl cM_at0) (Ln.id rfl) hA hK hP hD hS rfl hl.1 rfl rfl (Nat.le_of_ble_eq_true rfl) dX5_rises_29 (fun H locs hP hD hS => ?_)
      refine lv_icmp_ge (tgt := 38) hx hb dX5_rises_32 (by decide) (fun c_7 => ?_) (fun c_7 => ?_)
      · replace hf := if_t c_7 hf
        refine lv_aload_n hx hb dX5_rises_38 rfl (lv_at hl 0 rfl) ?_
        refine va_get (D := D) (ci := 5) (v := .ref (A 4)) (C := RX5) (T := TX5) (N := 27) hx hb hts hw5 hown hK hP 0 cM_at0 rfl 3 (by decide) k19 (fun _ h9 => h9) rfl dX5_rises_39 ?_
        refine lv_iload_n hx hb dX5_rises_42 rfl (lv_at hl 2 rfl) ?_
        refine lv_iconst (v := 3) hx hb dX5_rises_43 (by decide) ?_
        obtain ⟨c_8, hf⟩ := gi_e hf
        refine va_iast hx hb hK hP hD hS 4 0 cM_at4 rfl c_8 dX5_rises_44 (fun H locs hP hD hS => ?_)
        obtain ⟨h_9, eh_9, hf⟩ := nq_e hf
        rw [cM_su4, ← eh_9] at hP hD
        refine lv_aload_n hx hb dX5_rises_45 rfl (lv_at hl 0 rfl) ?_
        refine va_get (D := D) (ci := 5) (v := .ref (A 3)) (C := RX5) (T := TX5) (N := 27) hx hb hts hw5 hown hK hP 0 cM_at0 rfl 2 (by decide) k16 (fun _ h9 => h9) rfl dX5_rises_46 ?_
        refine lv_iload_n hx hb dX5_rises_49 rfl (lv_at hl 2 rfl) ?_
        refine lv_iconst (v := 0) hx hb dX5_rises_50 (by decide) ?_
        obtain ⟨c_10, hf⟩ := gi_e hf
        refine va_iast hx hb hK hP hD hS 3 0 cM_at3 rfl c_10 dX5_rises_51 (fun H locs hP hD hS => ?_)
        obtain ⟨h_11, eh_11, hf⟩ := nq_e hf
        rw [cM_su3, ← eh_11] at hP hD
        obtain ⟨v_12, ev_12, hf⟩ := nq_e hf
        refine lv_iinc (v := v_12) (lv' := [(1, .int v_12), (0, .ref (A 0)), (2, .int q4.2.1)]) hx hb dX5_rises_52 hl (k := 1) rfl (by rw [ev_12]; rfl) (by decide) rfl (fun ls hl => ?_)
        obtain ⟨v_13, ev_13, hf⟩ := nq_e hf
        refine lv_iinc (v := v_13) (lv' := [(2, .int v_13), (1, .int v_12), (0, .ref (A 0))]) hx hb dX5_rises_55 hl (k := 2) rfl (by rw [ev_13]; rfl) (by decide) rfl (fun ls hl => ?_)
        refine lv_goto (tgt := 4) hx hb dX5_rises_58 (by decide) ?_
        exact ih4 (v_12, v_13, h_11) hf H locs ls hP hD hS (lv_sub hl [2, 1, 0] rfl)
      · replace hf := if_f c_7 hf
        refine lv_goto (tgt := 55) hx hb dX5_rises_35 (by decide) ?_
        obtain ⟨v_14, ev_14, hf⟩ := nq_e hf
        refine lv_iinc (v := v_14) (lv' := [(2, .int v_14), (0, .ref (A 0)), (1, .int q4.1)]) hx hb dX5_rises_55 hl (k := 2) rfl (by rw [ev_14]; rfl) (by decide) rfl (fun ls hl => ?_)
        refine lv_goto (tgt := 4) hx hb dX5_rises_58 (by decide) ?_
        exact ih4 (q4.1, v_14, q4.2.2) hf H locs ls hP hD hS (lv_sub hl [1, 2, 0] rfl)

def rm_X5_tellsOne : Room := { frames := 3, cells := 0, slots := 0, locals := 66 }
theorem hd_X5_tellsOne : yX5_tellsOne.cls = RX5 ∧ yX5_tellsOne.cls ≠ "java/lang/invoke/MethodHandle" ∧ yX5_tellsOne.cls ≠ "java/lang/invoke/VarHandle" ∧ (parseMethodDescriptor yX5_tellsOne.desc).map (fun d => d.parameters.length) = some 1 := by decide +kernel
set_option maxRecDepth 100000 in
set_option maxHeartbeats 4000000 in
theorem c_X5_tellsOne (l : Launch) (D : va_G) (cI : ClassId) (A : Nat → Nat) (M : St) (p1 : Int32) (r : Int32 × St) (hf : f_X5_tellsOne M p1 = some r) : Ct l yX5_tellsOne wsX5_tellsOne rm_X5_tellsOne D cI (cM cI A M) (cM cI A r.2) [.ref (A 0), .int p1] (some (.int r.1)) := by
  unfold f_X5_tellsOne at hf
  refine Ct.ofI (cc := cX5_tellsOne) (maxL := 3) (by decide +kernel) rfl (Nat.le_of_ble_eq_true rfl) ?_
  intro p e s m args below meth c AA Q H locs ls hx hb hml hown hts hA hK hP hD hS hl hend0
  have hend : ∀ (r1 : Int32 × St) (H : Heap) (locs : List Loc) (pc : Nat) (ls : Array Slot), some r1 = some r → va_P D vwCl (cM cI A r1.2) H → va_S AA s.heap H locs → decode cX5_tellsOne pc = .ok (.ireturn, 1) → W p l e rm_X5_tellsOne s m args below meth c H locs 0 0 Q (F0 m pc ls [.int r1.1]) := by
    intro r1 H locs pc ls e1 hP hS hd; cases e1; exact hend0 H locs pc ls hP hS hd
  clear hend0
  have hw5 : ∀ w ∈ wsX50, w ∈ wsX5_tellsOne := by decide +kernel
  have k16 := hts (.fieldLink RX5 16 "AnchorsForConfessionModel" "loose" "[I") (by decide +kernel)
  have k19 := hts (.fieldLink RX5 19 "AnchorsForConfessionModel" "out" "[I") (by decide +kernel)
  have k28 := hts (.fieldLink RX5 28 "AnchorsForConfessionModel" "sins" "[I") (by decide +kernel)
  have k31 := hts (.fieldLink RX5 31 "AnchorsForConfessionModel" "aboard" "[I") (by decide +kernel)
  have k58 := hts (.fieldLink RX5 58 "AnchorsForConfessionModel" "ships" "I") (by decide +kernel)
  have k160 := hts (.fieldLink RX5 160 "AnchorsForConfessionModel" "heard" "I") (by decide +kernel)
  replace hl : lv_has ls 3 [(0, .ref (A 0)), (1, .int p1)] := hl
  refine lv_aload_n hx hb dX5_tellsOne_0 rfl (lv_at hl 0 rfl) ?_
  refine va_get (D := D) (ci := 5) (v := .ref (A 7)) (C := RX5) (T := TX5) (N := 27) hx hb hts hw5 hown hK hP 0 cM_at0 rfl 6 (by decide) k28 (fun _ h9 => h9) rfl dX5_tellsOne_1 ?_
  refine lv_iload_n hx hb dX5_tellsOne_4 rfl (lv_at hl 1 rfl) ?_
  refine lv_dup2_11 hx hb dX5_tellsOne_5 rfl rfl ?_
  obtain ⟨c_1, hf⟩ := gi_e hf
  refine va_iald hx hb hK hP 7 0 cM_at7 rfl c_1 dX5_tellsOne_6 ?_
  refine lv_iconst (v := 1) hx hb dX5_tellsOne_7 (by decide) ?_
  refine lv_isub hx hb dX5_tellsOne_8 ?_
  obtain ⟨c_2, hf⟩ := gi_e hf
  refine va_iast hx hb hK hP hD hS 7 0 cM_at7 rfl c_2 dX5_tellsOne_9 (fun H locs hP hD hS => ?_)
  obtain ⟨h_3, eh_3, hf⟩ := nq_e hf
  rw [cM_su7, ← eh_3] at hP hD
  refine lv_aload_n hx hb dX5_tellsOne_10 rfl (lv_at hl 0 rfl) ?_
  refine lv_aload_n hx hb dX5_tellsOne_11 rfl (lv_at hl 0 rfl) ?_
  refine va_get (D := D) (ci := 5) (v := .int (h_3 16 2)) (C := RX5) (T := TX5) (N := 27) hx hb hts hw5 hown hK hP 0 cM_at0 rfl 10 (by decide) k160 (fun _ h9 => h9) rfl dX5_tellsOne_12 ?_
  refine lv_iconst (v := 1) hx hb dX5_tellsOne_15 (by decide) ?_
  refine lv_iadd hx hb dX5_tellsOne_16 ?_
  refine lv_iconst (v := 0) hx hb dX5_tellsOne_17 (by decide) ?_
  refine lv_sipush (v := 999) hx hb dX5_tellsOne_18 (by decide +kernel) ?_
  obtain ⟨a_4, ha_4, hf⟩ := bd_e hf
  refine Ct.callS (As := [.int ((h_3 16 2) + (1 : Int32)), .int (0 : Int32), .int (999 : Int32)]) (rest := [.ref (A 0)]) (st1 := [.int a_4, .ref (A 0)]) (c_X5_held l D cI  ((h_3 16 2) + (1 : Int32)) (0 : Int32) (999 : Int32) a_4 ha_4) hx hb hml hown hts (va_cwS 3 hts gX5_tellsOne_X5_held rfl rfl rfl hd_X5_held ⟨Nat.le_of_ble_eq_true rfl, Nat.le_of_ble_eq_true rfl⟩) Ln.nil hA hK hP hD hS rfl hl.1 rfl rfl (Nat.le_of_ble_eq_true rfl) dX5_tellsOne_21 (fun H locs hP hD hS => ?_)
  refine va_put (D := D) (ci := 5) (v := .int a_4) (ty := .int) (C := RX5) (T := TX5) (N := 27) hx hb hts hw5 tyX5 tyX5_ok nmX5 hown hK hP hD hS 0 cM_at0 rfl 10 (by decide) k160 (fun _ h9 => h9) rfl (tyX5_ok 10 (by decide)) rfl rfl (Nat.le_of_ble_eq_true rfl) dX5_tellsOne_24 (fun H locs hP hD hS => ?_)
  obtain ⟨h_5, eh_5, hf⟩ := nq_e hf
  rw [cM_sc0_10, ← eh_5] at hP hD
  refine lv_iconst (v := 0) hx hb dX5_tellsOne_27 (by decide) ?_
  refine lv_istore_n (lv' := [(2, .int (0 : Int32)), (0, .ref (A 0)), (1, .int p1)]) hx hb dX5_tellsOne_28 rfl hl (by decide) rfl (fun ls hl => ?_)
  refine lp_ind (P := fun (q29 : Int32 × St) => ∀ (H : Heap) (locs : List Loc) (ls : Array Slot), va_P D vwCl (cM cI A q29.2) H → va_D AA (cM cI A q29.2) → va_S AA s.heap H locs → lv_has ls 3 [(0, .ref (A 0)), (1, .int p1), (2, .int q29.1)] → W p l e rm_X5_tellsOne s m args below meth c H locs 0 0 Q (F0 m 29 ls [])) hf ?_ H locs ls hP hD hS (lv_sub hl [1, 2, 0] rfl)
  clear hf hP hD hS hl
  intro nx29 ih29 q29 hf H locs ls hP hD hS hl
  refine lv_iload_n hx hb dX5_tellsOne_29 rfl (lv_at hl 2 rfl) ?_
  refine lv_aload_n hx hb dX5_tellsOne_30 rfl (lv_at hl 0 rfl) ?_
  refine va_get (D := D) (ci := 5) (v := .int (q29.2 16 0)) (C := RX5) (T := TX5) (N := 27) hx hb hts hw5 hown hK hP 0 cM_at0 rfl 8 (by decide) k58 (fun _ h9 => h9) rfl dX5_tellsOne_31 ?_
  refine lv_icmp_ge (tgt := 94) hx hb dX5_tellsOne_34 (by decide) (fun c_6 => ?_) (fun c_6 => ?_)
  · replace hf := if_t c_6 hf
    refine lv_aload_n hx hb dX5_tellsOne_94 rfl (lv_at hl 0 rfl) ?_
    obtain ⟨a_7, ha_7, hf⟩ := bd_e hf
    refine Ct.callV (As := []) (rest := []) (st1 := [.int a_7.1]) (c_X5_rises l D cI A q29.2 a_7 ha_7) hx hb hml hown hts (cwV 0 hts gX5_tellsOne_X5_rises rfl rfl rfl hd_X5_rises ⟨Nat.le_of_ble_eq_true rfl, Nat.le_of_ble_eq_true rfl⟩) (va_recv hK hP (ci := 5) (q0 := 0) rfl cM_at0) (Ln.id rfl) hA hK hP hD hS rfl hl.1 rfl rfl (Nat.le_of_ble_eq_true rfl) dX5_tellsOne_95 (fun H locs hP hD hS => ?_)
    replace hP : va_P D vwCl (cM cI A a_7.2) H := hP
    replace hD : va_D AA (cM cI A a_7.2) := hD
    exact hend (a_7.1, a_7.2) H locs _ _ hf hP hS dX5_tellsOne_98
  · replace hf := if_f c_6 hf
    refine lv_aload_n hx hb dX5_tellsOne_37 rfl (lv_at hl 0 rfl) ?_
    refine va_get (D := D) (ci := 5) (v := .ref (A 4)) (C := RX5) (T := TX5) (N := 27) hx hb hts hw5 hown hK hP 0 cM_at0 rfl 3 (by decide) k19 (fun _ h9 => h9) rfl dX5_tellsOne_38 ?_
    refine lv_iload_n hx hb dX5_tellsOne_41 rfl (lv_at hl 2 rfl) ?_
    obtain ⟨c_8, hf⟩ := gi_e hf
    refine va_iald hx hb hK hP 4 0 cM_at4 rfl c_8 dX5_tellsOne_42 ?_
    refine lv_if_ne (tgt := 88) hx hb dX5_tellsOne_43 (by decide) (fun c_9 => ?_) (fun c_9 => ?_)
    · replace hf := if_f c_9 hf
      obtain ⟨v_10, ev_10, hf⟩ := nq_e hf
      refine lv_iinc (v := v_10) (lv' := [(2, .int v_10), (0, .ref (A 0)), (1, .int p1)]) hx hb dX5_tellsOne_88 hl (k := 2) rfl (by rw [ev_10]; rfl) (by decide) rfl (fun ls hl => ?_)
      refine lv_goto (tgt := 29) hx hb dX5_tellsOne_91 (by decide) ?_
      exact ih29 (v_10, q29.2) hf H locs ls hP hD hS (lv_sub hl [1, 2, 0] rfl)
    · replace hf := if_t c_9 hf
      refine lv_aload_n hx hb dX5_tellsOne_46 rfl (lv_at hl 0 rfl) ?_
      refine va_get (D := D) (ci := 5) (v := .ref (A 3)) (C := RX5) (T := TX5) (N := 27) hx hb hts hw5 hown hK hP 0 cM_at0 rfl 2 (by decide) k16 (fun _ h9 => h9) rfl dX5_tellsOne_47 ?_
      refine lv_iload_n hx hb dX5_tellsOne_50 rfl (lv_at hl 2 rfl) ?_
      refine lv_aload_n hx hb dX5_tellsOne_51 rfl (lv_at hl 0 rfl) ?_
      refine va_get (D := D) (ci := 5) (v := .ref (A 3)) (C := RX5) (T := TX5) (N := 27) hx hb hts hw5 hown hK hP 0 cM_at0 rfl 2 (by decide) k16 (fun _ h9 => h9) rfl dX5_tellsOne_52 ?_
      refine lv_iload_n hx hb dX5_tellsOne_55 rfl (lv_at hl 2 rfl) ?_
      obtain ⟨c_11, hf⟩ := gi_e hf
      refine va_iald hx hb hK hP 3 0 cM_at3 rfl c_11 dX5_tellsOne_56 ?_
      refine lv_iload_n hx hb dX5_tellsOne_57 rfl (lv_at hl 2 rfl) ?_
      refine lv_aload_n hx hb dX5_tellsOne_58 rfl (lv_at hl 0 rfl) ?_
      refine va_get (D := D) (ci := 5) (v := .ref (A 8)) (C := RX5) (T := TX5) (N := 27) hx hb hts hw5 hown hK hP 0 cM_at0 rfl 7 (by decide) k31 (fun _ h9 => h9) rfl dX5_tellsOne_59 ?_
      refine lv_iload_n hx hb dX5_tellsOne_62 rfl (lv_at hl 1 rfl) ?_
      obtain ⟨c_12, hf⟩ := gi_e hf
      refine va_iald hx hb hK hP 8 0 cM_at8 rfl c_12 dX5_tellsOne_63 ?_
      refine lv_icmp_ne (tgt := 75) hx hb dX5_tellsOne_64 (by decide) (fun c_13 => ?_) (fun c_13 => ?_)
      · replace hf := if_f c_13 hf
        refine lv_aload_n hx hb dX5_tellsOne_75 rfl (lv_at hl 0 rfl) ?_
        refine lv_iload_n hx hb dX5_tellsOne_76 rfl (lv_at hl 1 rfl) ?_
        obtain ⟨a_14, ha_14, hf⟩ := bd_e hf
        refine Ct.callV (As := [.int p1]) (rest := [.int (q29.2 2 (q29.1).toNatClampNeg), .int q29.1, .ref (A 3)]) (st1 := [.int a_14, .int (q29.2 2 (q29.1).toNatClampNeg), .int q29.1, .ref (A 3)]) (c_X5_heardOf l D cI A q29.2 p1 a_14 ha_14) hx hb hml hown hts (cwV 1 hts gX5_tellsOne_X5_heardOf rfl rfl rfl hd_X5_heardOf ⟨Nat.le_of_ble_eq_true rfl, Nat.le_of_ble_eq_true rfl⟩) (va_recv hK hP (ci := 5) (q0 := 0) rfl cM_at0) (Ln.id rfl) hA hK hP hD hS rfl hl.1 rfl rfl (Nat.le_of_ble_eq_true rfl) dX5_tellsOne_77 (fun H locs hP hD hS => ?_)
        refine lv_iadd hx hb dX5_tellsOne_80 ?_
        refine lv_iconst (v := 0) hx hb dX5_tellsOne_81 (by decide) ?_
        refine lv_bipush (v := 99) hx hb dX5_tellsOne_82 (by decide +kernel) ?_
        obtain ⟨a_15, ha_15, hf⟩ := bd_e hf
        refine Ct.callS (As := [.int ((q29.2 2 (q29.1).toNatClampNeg) + a_14), .int (0 : Int32), .int (99 : Int32)]) (rest := [.int q29.1, .ref (A 3)]) (st1 := [.int a_15, .int q29.1, .ref (A 3)]) (c_X5_held l D cI  ((q29.2 2 (q29.1).toNatClampNeg) + a_14) (0 : Int32) (99 : Int32) a_15 ha_15) hx hb hml hown hts (va_cwS 3 hts gX5_tellsOne_X5_held rfl rfl rfl hd_X5_held ⟨Nat.le_of_ble_eq_true rfl, Nat.le_of_ble_eq_true rfl⟩) Ln.nil hA hK hP hD hS rfl hl.1 rfl rfl (Nat.le_of_ble_eq_true rfl) dX5_tellsOne_84 (fun H locs hP hD hS => ?_)
        obtain ⟨c_16, hf⟩ := gi_e hf
        refine va_iast hx hb hK hP hD hS 3 0 cM_at3 rfl c_16 dX5_tellsOne_87 (fun H locs hP hD hS => ?_)
        obtain ⟨h_17, eh_17, hf⟩ := nq_e hf
        rw [cM_su3, ← eh_17] at hP hD
        obtain ⟨v_18, ev_18, hf⟩ := nq_e hf
        refine lv_iinc (v := v_18) (lv' := [(2, .int v_18), (0, .ref (A 0)), (1, .int p1)]) hx hb dX5_tellsOne_88 hl (k := 2) rfl (by rw [ev_18]; rfl) (by decide) rfl (fun ls hl => ?_)
        refine lv_goto (tgt := 29) hx hb dX5_tellsOne_91 (by decide) ?_
        exact ih29 (v_18, h_17) hf H locs ls hP hD hS (lv_sub hl [1, 2, 0] rfl)
      · replace hf := if_t c_13 hf
        refine lv_aload_n hx hb dX5_tellsOne_67 rfl (lv_at hl 0 rfl) ?_
        refine lv_iload_n hx hb dX5_tellsOne_68 rfl (lv_at hl 1 rfl) ?_
        obtain ⟨a_19, ha_19, hf⟩ := bd_e hf
        refine Ct.callV (As := [.int p1]) (rest := [.int (q29.2 2 (q29.1).toNatClampNeg), .int q29.1, .ref (A 3)]) (st1 := [.int a_19, .int (q29.2 2 (q29.1).toNatClampNeg), .int q29.1, .ref (A 3)]) (c_X5_worth l D cI A q29.2 p1 a_19 ha_19) hx hb hml hown hts (cwV 1 hts gX5_tellsOne_X5_worth rfl rfl rfl hd_X5_worth ⟨Nat.le_of_ble_eq_true rfl, Nat.le_of_ble_eq_true rfl⟩) (va_recv hK hP (ci := 5) (q0 := 0) rfl cM_at0) (Ln.id rfl) hA hK hP hD hS rfl hl.1 rfl rfl (Nat.le_of_ble_eq_true rfl) dX5_tellsOne_69 (fun H locs hP hD hS => ?_)
        refine lv_goto (tgt := 80) hx hb dX5_tellsOne_72 (by decide) ?_
        refine lv_iadd hx hb dX5_tellsOne_80 ?_
        refine lv_iconst (v := 0) hx hb dX5_tellsOne_81 (by decide) ?_
        refine lv_bipush (v := 99) hx hb dX5_tellsOne_82 (by decide +kernel) ?_
        obtain ⟨a_20, ha_20, hf⟩ := bd_e hf
        refine Ct.callS (As := [.int ((q29.2 2 (q29.1).toNatClampNeg) + a_19), .int (0 : Int32), .int (99 : Int32)]) (rest := [.int q29.1, .ref (A 3)]) (st1 := [.int a_20, .int q29.1, .ref (A 3)]) (c_X5_held l D cI  ((q29.2 2 (q29.1).toNatClampNeg) + a_19) (0 : Int32) (99 : Int32) a_20 ha_20) hx hb hml hown hts (va_cwS 3 hts gX5_tellsOne_X5_held rfl rfl rfl hd_X5_held ⟨Nat.le_of_ble_eq_true rfl, Nat.le_of_ble_eq_true rfl⟩) Ln.nil hA hK hP hD hS rfl hl.1 rfl rfl (Nat.le_of_ble_eq_true rfl) dX5_tellsOne_84 (fun H locs hP hD hS => ?_)
        obtain ⟨c_21, hf⟩ := gi_e hf
        refine va_iast hx hb hK hP hD hS 3 0 cM_at3 rfl c_21 dX5_tellsOne_87 (fun H locs hP hD hS => ?_)
        obtain ⟨h_22, eh_22, hf⟩ := nq_e hf
        rw [cM_su3, ← eh_22] at hP hD
        obtain ⟨v_23, ev_23, hf⟩ := nq_e hf
        refine lv_iinc (v := v_23) (lv' := [(2, .int v_23), (0, .ref (A 0)), (1, .int p1)]) hx hb dX5_tellsOne_88 hl (k := 2) rfl (by rw [ev_23]; rfl) (by decide) rfl (fun ls hl => ?_)
        refine lv_goto (tgt := 29) hx hb dX5_tellsOne_91 (by decide) ?_
        exact ih29 (v_23, h_22) hf H locs ls hP hD hS (lv_sub hl [1, 2, 0] rfl)

def rm_X5_comes : Room := { frames := 4, cells := 0, slots := 0, locals := 88 }
theorem hd_X5_comes : yX5_comes.cls = RX5 ∧ yX5_comes.cls ≠ "java/lang/invoke/MethodHandle" ∧ yX5_comes.cls ≠ "java/lang/invoke/VarHandle" ∧ (parseMethodDescriptor yX5_comes.desc).map (fun d => d.parameters.length) = some 1 := by decide +kernel
set_option maxRecDepth 100000 in
set_option maxHeartbeats 4000000 in
theorem c_X5_comes (l : Launch) (D : va_G) (cI : ClassId) (A : Nat → Nat) (M : St) (p1 : Int32) (r : Int32 × St) (hf : f_X5_comes M p1 = some r) : Ct l yX5_comes wsX5_comes rm_X5_comes D cI (cM cI A M) (cM cI A r.2) [.ref (A 0), .int p1] (some (.int r.1)) := by
  unfold f_X5_comes at hf
  obtain ⟨hz, hf⟩ := fzp_e hf
  refine Ct.ofZ hz (cc := cX5_comes) (maxL := 3) (by decide +kernel) rfl (Nat.le_of_ble_eq_true rfl) ?_
  intro p e s m args below meth c AA Q H locs ls hx hb hml hown hts hA hK hP hD hS hl hend0
  have hend : ∀ (r1 : Int32 × St) (H : Heap) (locs : List Loc) (pc : Nat) (ls : Array Slot), some r1 = some r → va_P D vwCl (cM cI A r1.2) H → va_S AA s.heap H locs → decode cX5_comes pc = .ok (.ireturn, 1) → W p l e rm_X5_comes s m args below meth c H locs 0 0 Q (F0 m pc ls [.int r1.1]) := by
    intro r1 H locs pc ls e1 hP hS hd; cases e1; exact hend0 H locs pc ls hP hS hd
  clear hend0
  have hw5 : ∀ w ∈ wsX50, w ∈ wsX5_comes := by decide +kernel
  have k28 := hts (.fieldLink RX5 28 "AnchorsForConfessionModel" "sins" "[I") (by decide +kernel)
  have k31 := hts (.fieldLink RX5 31 "AnchorsForConfessionModel" "aboard" "[I") (by decide +kernel)
  have k37 := hts (.fieldLink RX5 37 "AnchorsForConfessionModel" "letter" "[I") (by decide +kernel)
  have k43 := hts (.fieldLink RX5 43 "AnchorsForConfessionModel" "told" "[I") (by decide +kernel)
  replace hl : lv_has ls 3 [(0, .ref (A 0)), (1, .int p1)] := hl
  refine lv_iconst (v := 4) hx hb dX5_comes_0 (by decide) ?_
  refine lv_iload_n hx hb dX5_comes_1 rfl (lv_at hl 1 rfl) ?_
  refine lv_imul hx hb dX5_comes_2 ?_
  refine lv_topi (fun v_1 ev_1 => ?_)
  replace hf := nm_at ev_1 hf
  refine lv_istore_n (lv' := [(2, .int v_1), (0, .ref (A 0)), (1, .int p1)]) hx hb dX5_comes_3 rfl hl (by decide) rfl (fun ls hl => ?_)
  refine lv_aload_n hx hb dX5_comes_4 rfl (lv_at hl 1 rfl) ?_
  refine va_get (D := D) (ci := 5) (v := .ref (A 10)) (C := RX5) (T := TX5) (N := 27) hx hb hts hw5 hown hK hP 0 cM_at0 rfl 13 (by decide) k37 (fun _ h9 => h9) rfl dX5_comes_5 ?_
  refine lv_iload_n hx hb dX5_comes_8 rfl (lv_at hl 2 rfl) ?_
  obtain ⟨c_2, hf⟩ := gi_e hf
  refine va_iald hx hb hK hP 10 0 cM_at10 rfl c_2 dX5_comes_9 ?_
  by_cases c_3 : (M 9 (p1).toNatClampNeg) = 98
  · replace hf := if_t c_3 hf
    refine lv_lookup (off := 95) (tgt := 105) hx hb dX5_comes_10 (by decide) (by rw [c_3]; decide +kernel) (by decide) ?_
    refine lv_aload_n hx hb dX5_comes_105 rfl (lv_at hl 1 rfl) ?_
    refine lv_aload_n hx hb dX5_comes_106 rfl (lv_at hl 1 rfl) ?_
    refine va_get (D := D) (ci := 5) (v := .ref (A 12)) (C := RX5) (T := TX5) (N := 27) hx hb hts hw5 hown hK hP 0 cM_at0 rfl 15 (by decide) k43 (fun _ h9 => h9) rfl dX5_comes_107 ?_
    refine lv_iload_n hx hb dX5_comes_110 rfl (lv_at hl 0 rfl) ?_
    obtain ⟨c_4, hf⟩ := gi_e hf
    refine va_iald hx hb hK hP 12 0 cM_at12 rfl c_4 dX5_comes_111 ?_
    obtain ⟨a_5, ha_5, hf⟩ := bd_e hf
    refine Ct.callV (As := [.int (M 11 (v_1).toNatClampNeg)]) (rest := []) (st1 := [.int a_5]) (c_X5_isMan l D cI A M (M 11 (v_1).toNatClampNeg) a_5 ha_5) hx hb hml hown hts (cwV 1 hts gX5_comes_X5_isMan rfl rfl rfl hd_X5_isMan ⟨Nat.le_of_ble_eq_true rfl, Nat.le_of_ble_eq_true rfl⟩) (va_recv hK hP (ci := 5) (q0 := 0) rfl cM_at0) (Ln.id rfl) hA hK hP hD hS rfl hl.1 rfl rfl (Nat.le_of_ble_eq_true rfl) dX5_comes_112 (fun H locs hP hD hS => ?_)
    refine lv_if_eq (tgt := 133) hx hb dX5_comes_115 (by decide) (fun c_6 => ?_) (fun c_6 => ?_)
    · replace hf := if_t c_6 hf
      refine lv_iconst (v := 0) hx hb dX5_comes_133 (by decide) ?_
      exact hend ((0 : Int32), M) H locs _ _ hf hP hS dX5_comes_134
    · replace hf := if_f c_6 hf
      refine lv_aload_n hx hb dX5_comes_118 rfl (lv_at hl 1 rfl) ?_
      refine lv_aload_n hx hb dX5_comes_119 rfl (lv_at hl 1 rfl) ?_
      refine va_get (D := D) (ci := 5) (v := .ref (A 12)) (C := RX5) (T := TX5) (N := 27) hx hb hts hw5 hown hK hP 0 cM_at0 rfl 15 (by decide) k43 (fun _ h9 => h9) rfl dX5_comes_120 ?_
      refine lv_iload_n hx hb dX5_comes_123 rfl (lv_at hl 0 rfl) ?_
      refine lv_iconst (v := 1) hx hb dX5_comes_124 (by decide) ?_
      refine lv_iadd hx hb dX5_comes_125 ?_
      obtain ⟨c_7, hf⟩ := gi_e hf
      refine va_iald hx hb hK hP 12 0 cM_at12 rfl c_7 dX5_comes_126 ?_
      obtain ⟨a_8, ha_8, hf⟩ := bd_e hf
      refine Ct.callV (As := [.int (M 11 ((v_1 + (1 : Int32))).toNatClampNeg)]) (rest := []) (st1 := [.int a_8]) (c_X5_isShip l D cI A M (M 11 ((v_1 + (1 : Int32))).toNatClampNeg) a_8 ha_8) hx hb hml hown hts (cwV 1 hts gX5_comes_X5_isShip rfl rfl rfl hd_X5_isShip ⟨Nat.le_of_ble_eq_true rfl, Nat.le_of_ble_eq_true rfl⟩) (va_recv hK hP (ci := 5) (q0 := 0) rfl cM_at0) (Ln.id rfl) hA hK hP hD hS rfl hl.1 rfl rfl (Nat.le_of_ble_eq_true rfl) dX5_comes_127 (fun H locs hP hD hS => ?_)
      refine lv_if_ne (tgt := 135) hx hb dX5_comes_130 (by decide) (fun c_9 => ?_) (fun c_9 => ?_)
      · replace hf := if_f c_9 hf
        refine lv_aload_n hx hb dX5_comes_135 rfl (lv_at hl 1 rfl) ?_
        refine va_get (D := D) (ci := 5) (v := .ref (A 8)) (C := RX5) (T := TX5) (N := 27) hx hb hts hw5 hown hK hP 0 cM_at0 rfl 7 (by decide) k31 (fun _ h9 => h9) rfl dX5_comes_136 ?_
        refine lv_aload_n hx hb dX5_comes_139 rfl (lv_at hl 1 rfl) ?_
        refine va_get (D := D) (ci := 5) (v := .ref (A 12)) (C := RX5) (T := TX5) (N := 27) hx hb hts hw5 hown hK hP 0 cM_at0 rfl 15 (by decide) k43 (fun _ h9 => h9) rfl dX5_comes_140 ?_
        refine lv_iload_n hx hb dX5_comes_143 rfl (lv_at hl 0 rfl) ?_
        obtain ⟨c_10, hf⟩ := gi_e hf
        refine va_iald hx hb hK hP 12 0 cM_at12 rfl c_10 dX5_comes_144 ?_
        refine lv_aload_n hx hb dX5_comes_145 rfl (lv_at hl 1 rfl) ?_
        refine va_get (D := D) (ci := 5) (v := .ref (A 12)) (C := RX5) (T := TX5) (N := 27) hx hb hts hw5 hown hK hP 0 cM_at0 rfl 15 (by decide) k43 (fun _ h9 => h9) rfl dX5_comes_146 ?_
        refine lv_iload_n hx hb dX5_comes_149 rfl (lv_at hl 0 rfl) ?_
        refine lv_iconst (v := 1) hx hb dX5_comes_150 (by decide) ?_
        refine lv_iadd hx hb dX5_comes_151 ?_
        obtain ⟨c_11, hf⟩ := gi_e hf
        refine va_iald hx hb hK hP 12 0 cM_at12 rfl c_11 dX5_comes_152 ?_
        obtain ⟨c_12, hf⟩ := gi_e hf
        refine va_iast hx hb hK hP hD hS 8 0 cM_at8 rfl c_12 dX5_comes_153 (fun H locs hP hD hS => ?_)
        obtain ⟨h_13, eh_13, hf⟩ := nq_e hf
        rw [cM_su8, ← eh_13] at hP hD
        refine lv_iconst (v := 1) hx hb dX5_comes_154 (by decide) ?_
        exact hend ((1 : Int32), h_13) H locs _ _ hf hP hS dX5_comes_155
      · replace hf := if_t c_9 hf
        refine lv_iconst (v := 0) hx hb dX5_comes_133 (by decide) ?_
        exact hend ((0 : Int32), M) H locs _ _ hf hP hS dX5_comes_134
  · replace hf := if_f c_3 hf
    by_cases c_14 : (M 9 (p1).toNatClampNeg) = 109
    · replace hf := if_t c_14 hf
      refine lv_lookup (off := 61) (tgt := 71) hx hb dX5_comes_10 (by decide) (by rw [c_14]; decide +kernel) (by decide) ?_
      refine lv_aload_n hx hb dX5_comes_71 rfl (lv_at hl 1 rfl) ?_
      refine lv_iload_n hx hb dX5_comes_72 rfl (lv_at hl 0 rfl) ?_
      obtain ⟨a_15, ha_15, hf⟩ := bd_e hf
      refine Ct.callV (As := [.int v_1]) (rest := []) (st1 := [.int a_15.1]) (c_X5_comesMan l D cI A M v_1 a_15 ha_15) hx hb hml hown hts (cwV 1 hts gX5_comes_X5_comesMan rfl rfl rfl hd_X5_comesMan ⟨Nat.le_of_ble_eq_true rfl, Nat.le_of_ble_eq_true rfl⟩) (va_recv hK hP (ci := 5) (q0 := 0) rfl cM_at0) (Ln.id rfl) hA hK hP hD hS rfl hl.1 rfl rfl (Nat.le_of_ble_eq_true rfl) dX5_comes_73 (fun H locs hP hD hS => ?_)
      replace hP : va_P D vwCl (cM cI A a_15.2) H := hP
      replace hD : va_D AA (cM cI A a_15.2) := hD
      exact hend (a_15.1, a_15.2) H locs _ _ hf hP hS dX5_comes_76
    · replace hf := if_f c_14 hf
      by_cases c_16 : (M 9 (p1).toNatClampNeg) = 115
      · replace hf := if_t c_16 hf
        refine lv_lookup (off := 50) (tgt := 60) hx hb dX5_comes_10 (by decide) (by rw [c_16]; decide +kernel) (by decide) ?_
        refine lv_aload_n hx hb dX5_comes_60 rfl (lv_at hl 1 rfl) ?_
        refine lv_aload_n hx hb dX5_comes_61 rfl (lv_at hl 1 rfl) ?_
        refine va_get (D := D) (ci := 5) (v := .ref (A 12)) (C := RX5) (T := TX5) (N := 27) hx hb hts hw5 hown hK hP 0 cM_at0 rfl 15 (by decide) k43 (fun _ h9 => h9) rfl dX5_comes_62 ?_
        refine lv_iload_n hx hb dX5_comes_65 rfl (lv_at hl 0 rfl) ?_
        obtain ⟨c_17, hf⟩ := gi_e hf
        refine va_iald hx hb hK hP 12 0 cM_at12 rfl c_17 dX5_comes_66 ?_
        obtain ⟨a_18, ha_18, hf⟩ := bd_e hf
        refine Ct.callV (As := [.int (M 11 (v_1).toNatClampNeg)]) (rest := []) (st1 := [.int a_18.1]) (c_X5_comesShip l D cI A M (M 11 (v_1).toNatClampNeg) a_18 ha_18) hx hb hml hown hts (cwV 1 hts gX5_comes_X5_comesShip rfl rfl rfl hd_X5_comesShip ⟨Nat.le_of_ble_eq_true rfl, Nat.le_of_ble_eq_true rfl⟩) (va_recv hK hP (ci := 5) (q0 := 0) rfl cM_at0) (Ln.id rfl) hA hK hP hD hS rfl hl.1 rfl rfl (Nat.le_of_ble_eq_true rfl) dX5_comes_67 (fun H locs hP hD hS => ?_)
        replace hP : va_P D vwCl (cM cI A a_18.2) H := hP
        replace hD : va_D AA (cM cI A a_18.2) := hD
        exact hend (a_18.1, a_18.2) H locs _ _ hf hP hS dX5_comes_70
      · replace hf := if_f c_16 hf
        by_cases c_19 : (M 9 (p1).toNatClampNeg) = 116
        · replace hf := if_t c_19 hf
          refine lv_lookup (off := 67) (tgt := 77) hx hb dX5_comes_10 (by decide) (by rw [c_19]; decide +kernel) (by decide) ?_
          refine lv_aload_n hx hb dX5_comes_77 rfl (lv_at hl 1 rfl) ?_
          refine lv_aload_n hx hb dX5_comes_78 rfl (lv_at hl 1 rfl) ?_
          refine va_get (D := D) (ci := 5) (v := .ref (A 12)) (C := RX5) (T := TX5) (N := 27) hx hb hts hw5 hown hK hP 0 cM_at0 rfl 15 (by decide) k43 (fun _ h9 => h9) rfl dX5_comes_79 ?_
          refine lv_iload_n hx hb dX5_comes_82 rfl (lv_at hl 0 rfl) ?_
          obtain ⟨c_20, hf⟩ := gi_e hf
          refine va_iald hx hb hK hP 12 0 cM_at12 rfl c_20 dX5_comes_83 ?_
          obtain ⟨a_21, ha_21, hf⟩ := bd_e hf
          refine Ct.callV (As := [.int (M 11 (v_1).toNatClampNeg)]) (rest := []) (st1 := [.int a_21]) (c_X5_canTell l D cI A M (M 11 (v_1).toNatClampNeg) a_21 ha_21) hx hb hml hown hts (cwV 1 hts gX5_comes_X5_canTell rfl rfl rfl hd_X5_canTell ⟨Nat.le_of_ble_eq_true rfl, Nat.le_of_ble_eq_true rfl⟩) (va_recv hK hP (ci := 5) (q0 := 0) rfl cM_at0) (Ln.id rfl) hA hK hP hD hS rfl hl.1 rfl rfl (Nat.le_of_ble_eq_true rfl) dX5_comes_84 (fun H locs hP hD hS => ?_)
          refine lv_if_ne (tgt := 92) hx hb dX5_comes_87 (by decide) (fun c_22 => ?_) (fun c_22 => ?_)
          · replace hf := if_f c_22 hf
            refine lv_aload_n hx hb dX5_comes_92 rfl (lv_at hl 1 rfl) ?_
            refine lv_aload_n hx hb dX5_comes_93 rfl (lv_at hl 1 rfl) ?_
            refine va_get (D := D) (ci := 5) (v := .ref (A 12)) (C := RX5) (T := TX5) (N := 27) hx hb hts hw5 hown hK hP 0 cM_at0 rfl 15 (by decide) k43 (fun _ h9 => h9) rfl dX5_comes_94 ?_
            refine lv_iload_n hx hb dX5_comes_97 rfl (lv_at hl 0 rfl) ?_
            obtain ⟨c_23, hf⟩ := gi_e hf
            refine va_iald hx hb hK hP 12 0 cM_at12 rfl c_23 dX5_comes_98 ?_
            obtain ⟨a_24, ha_24, hf⟩ := bd_e hf
            refine Ct.callV (As := [.int (M 11 (v_1).toNatClampNeg)]) (rest := []) (st1 := [.int a_24.1]) (c_X5_tellsOne l D cI A M (M 11 (v_1).toNatClampNeg) a_24 ha_24) hx hb hml hown hts (cwV 1 hts gX5_comes_X5_tellsOne rfl rfl rfl hd_X5_tellsOne ⟨Nat.le_of_ble_eq_true rfl, Nat.le_of_ble_eq_true rfl⟩) (va_recv hK hP (ci := 5) (q0 := 0) rfl cM_at0) (Ln.id rfl) hA hK hP hD hS rfl hl.1 rfl rfl (Nat.le_of_ble_eq_true rfl) dX5_comes_99 (fun H locs hP hD hS => ?_)
            replace hP : va_P D vwCl (cM cI A a_24.2) H := hP
            replace hD : va_D AA (cM cI A a_24.2) := hD
            refine lv_pop hx hb dX5_comes_102 rfl ?_
            refine lv_iconst (v := 1) hx hb dX5_comes_103 (by decide) ?_
            exact hend ((1 : Int32), a_24.2) H locs _ _ hf hP hS dX5_comes_104
          · replace hf := if_t c_22 hf
            refine lv_iconst (v := 0) hx hb dX5_comes_90 (by decide) ?_
            exact hend ((0 : Int32), M) H locs _ _ hf hP hS dX5_comes_91
        · replace hf := if_f c_19 hf
          by_cases c_25 : (M 9 (p1).toNatClampNeg) = 118
          · replace hf := if_t c_25 hf
            refine lv_lookup (off := 146) (tgt := 156) hx hb dX5_comes_10 (by decide) (by rw [c_25]; decide +kernel) (by decide) ?_
            refine lv_aload_n hx hb dX5_comes_156 rfl (lv_at hl 1 rfl) ?_
            refine lv_aload_n hx hb dX5_comes_157 rfl (lv_at hl 1 rfl) ?_
            refine va_get (D := D) (ci := 5) (v := .ref (A 12)) (C := RX5) (T := TX5) (N := 27) hx hb hts hw5 hown hK hP 0 cM_at0 rfl 15 (by decide) k43 (fun _ h9 => h9) rfl dX5_comes_158 ?_
            refine lv_iload_n hx hb dX5_comes_161 rfl (lv_at hl 0 rfl) ?_
            obtain ⟨c_26, hf⟩ := gi_e hf
            refine va_iald hx hb hK hP 12 0 cM_at12 rfl c_26 dX5_comes_162 ?_
            obtain ⟨a_27, ha_27, hf⟩ := bd_e hf
            refine Ct.callV (As := [.int (M 11 (v_1).toNatClampNeg)]) (rest := []) (st1 := [.int a_27]) (c_X5_isMan l D cI A M (M 11 (v_1).toNatClampNeg) a_27 ha_27) hx hb hml hown hts (cwV 1 hts gX5_comes_X5_isMan rfl rfl rfl hd_X5_isMan ⟨Nat.le_of_ble_eq_true rfl, Nat.le_of_ble_eq_true rfl⟩) (va_recv hK hP (ci := 5) (q0 := 0) rfl cM_at0) (Ln.id rfl) hA hK hP hD hS rfl hl.1 rfl rfl (Nat.le_of_ble_eq_true rfl) dX5_comes_163 (fun H locs hP hD hS => ?_)
            refine lv_if_ne (tgt := 171) hx hb dX5_comes_166 (by decide) (fun c_28 => ?_) (fun c_28 => ?_)
            · replace hf := if_f c_28 hf
              refine lv_aload_n hx hb dX5_comes_171 rfl (lv_at hl 1 rfl) ?_
              refine va_get (D := D) (ci := 5) (v := .ref (A 7)) (C := RX5) (T := TX5) (N := 27) hx hb hts hw5 hown hK hP 0 cM_at0 rfl 6 (by decide) k28 (fun _ h9 => h9) rfl dX5_comes_172 ?_
              refine lv_aload_n hx hb dX5_comes_175 rfl (lv_at hl 1 rfl) ?_
              refine va_get (D := D) (ci := 5) (v := .ref (A 12)) (C := RX5) (T := TX5) (N := 27) hx hb hts hw5 hown hK hP 0 cM_at0 rfl 15 (by decide) k43 (fun _ h9 => h9) rfl dX5_comes_176 ?_
              refine lv_iload_n hx hb dX5_comes_179 rfl (lv_at hl 0 rfl) ?_
              obtain ⟨c_29, hf⟩ := gi_e hf
              refine va_iald hx hb hK hP 12 0 cM_at12 rfl c_29 dX5_comes_180 ?_
              refine lv_aload_n hx hb dX5_comes_181 rfl (lv_at hl 1 rfl) ?_
              refine va_get (D := D) (ci := 5) (v := .ref (A 12)) (C := RX5) (T := TX5) (N := 27) hx hb hts hw5 hown hK hP 0 cM_at0 rfl 15 (by decide) k43 (fun _ h9 => h9) rfl dX5_comes_182 ?_
              refine lv_iload_n hx hb dX5_comes_185 rfl (lv_at hl 0 rfl) ?_
              refine lv_iconst (v := 1) hx hb dX5_comes_186 (by decide) ?_
              refine lv_iadd hx hb dX5_comes_187 ?_
              obtain ⟨c_30, hf⟩ := gi_e hf
              refine va_iald hx hb hK hP 12 0 cM_at12 rfl c_30 dX5_comes_188 ?_
              obtain ⟨c_31, hf⟩ := gi_e hf
              refine va_iast hx hb hK hP hD hS 7 0 cM_at7 rfl c_31 dX5_comes_189 (fun H locs hP hD hS => ?_)
              obtain ⟨h_32, eh_32, hf⟩ := nq_e hf
              rw [cM_su7, ← eh_32] at hP hD
              refine lv_iconst (v := 1) hx hb dX5_comes_190 (by decide) ?_
              exact hend ((1 : Int32), h_32) H locs _ _ hf hP hS dX5_comes_191
            · replace hf := if_t c_28 hf
              refine lv_iconst (v := 0) hx hb dX5_comes_169 (by decide) ?_
              exact hend ((0 : Int32), M) H locs _ _ hf hP hS dX5_comes_170
          · replace hf := if_f c_25 hf
            refine lv_lookup (off := 182) (tgt := 192) hx hb dX5_comes_10 (by decide) (by show Op.lookupswitch.offset [(98, 95), (109, 61), (115, 50), (116, 67), (118, 146)] 182 _ = _; rw [lv_osw c_3 (by decide +kernel), lv_osw c_14 (by decide +kernel), lv_osw c_16 (by decide +kernel), lv_osw c_19 (by decide +kernel), lv_osw c_25 (by decide +kernel)]; rfl) (by decide) ?_
            refine lv_aload_n hx hb dX5_comes_192 rfl (lv_at hl 1 rfl) ?_
            refine lv_aload_n hx hb dX5_comes_193 rfl (lv_at hl 1 rfl) ?_
            refine va_get (D := D) (ci := 5) (v := .ref (A 12)) (C := RX5) (T := TX5) (N := 27) hx hb hts hw5 hown hK hP 0 cM_at0 rfl 15 (by decide) k43 (fun _ h9 => h9) rfl dX5_comes_194 ?_
            refine lv_iload_n hx hb dX5_comes_197 rfl (lv_at hl 0 rfl) ?_
            obtain ⟨c_33, hf⟩ := gi_e hf
            refine va_iald hx hb hK hP 12 0 cM_at12 rfl c_33 dX5_comes_198 ?_
            obtain ⟨a_34, ha_34, hf⟩ := bd_e hf
            refine Ct.callV (As := [.int (M 11 (v_1).toNatClampNeg)]) (rest := []) (st1 := [.int a_34.1]) (c_X5_comesTides l D cI A M (M 11 (v_1).toNatClampNeg) a_34 ha_34) hx hb hml hown hts (cwV 1 hts gX5_comes_X5_comesTides rfl rfl rfl hd_X5_comesTides ⟨Nat.le_of_ble_eq_true rfl, Nat.le_of_ble_eq_true rfl⟩) (va_recv hK hP (ci := 5) (q0 := 0) rfl cM_at0) (Ln.id rfl) hA hK hP hD hS rfl hl.1 rfl rfl (Nat.le_of_ble_eq_true rfl) dX5_comes_199 (fun H locs hP hD hS => ?_)
            replace hP : va_P D vwCl (cM cI A a_34.2) H := hP
            replace hD : va_D AA (cM cI A a_34.2) := hD
            exact hend (a_34.1, a_34.2) H locs _ _ hf hP hS dX5_comes_202
