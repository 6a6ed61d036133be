def f_X5_no (M : St) (p1 : Int32) : Option (Int32 × St) := (gi (-p1) 7 (gi (-p1) 7 (nm (su M 0 ((-p1)).toNatClampNeg ((M 0 ((-p1)).toNatClampNeg) + (1 : Int32))) fun h_3 => (some (p1, h_3)))))
def rm_X5_no : Room := { frames := 0, cells := 0, slots := 0, locals := 0 }
theorem hd_X5_no : yX5_no.cls = RX5 ∧ yX5_no.cls ≠ "java/lang/invoke/MethodHandle" ∧ yX5_no.cls ≠ "java/lang/invoke/VarHandle" ∧ (parseMethodDescriptor yX5_no.desc).map (fun d => d.parameters.length) = some 1 := by decide +kernel
set_option maxRecDepth 100000 in
set_option maxHeartbeats 4000000 in
theorem c_X5_no (l : Launch) (D : va_G) (cI : ClassId) (A : Nat → Nat) (M : St) (p1 : Int32) (r : Int32 × St) (hf : f_X5_no M p1 = some r) : Ct l yX5_no wsX5_no rm_X5_no D cI (cM cI A M) (cM cI A r.2) [.ref (A 0), .int p1] (some (.int r.1)) := by
  unfold f_X5_no at hf
  refine Ct.ofI (cc := cX5_no) (maxL := 2) (by decide +kernel) rfl (Nat.le_of_ble_eq_true rfl) ?_
  intro p e s m args below meth c AA Q H locs ls hx hb hml hown hts hA hK hP hD hS hl hend0
  have hend : ∀ (r1 : Int32 × St) (H : Heap) (locs : List Loc) (pc : Nat) (ls : Array Slot), some r1 = some r → va_P D vwCl (cM cI A r1.2) H → va_S AA s.heap H locs → decode cX5_no pc = .ok (.ireturn, 1) → W p l e rm_X5_no s m args below meth c H locs 0 0 Q (F0 m pc ls [.int r1.1]) := by
    intro r1 H locs pc ls e1 hP hS hd; cases e1; exact hend0 H locs pc ls hP hS hd
  clear hend0
  have hw5 : ∀ w ∈ wsX50, w ∈ wsX5_no := by decide +kernel
  have k7 := hts (.fieldLink RX5 7 "AnchorsForConfessionModel" "refused" "[I") (by decide +kernel)
  replace hl : lv_has ls 2 [(0, .ref (A 0)), (1, .int p1)] := hl
  refine lv_aload_n hx hb dX5_no_0 rfl (lv_at hl 0 rfl) ?_
  refine va_get (D := D) (ci := 5) (v := .ref (A 1)) (C := RX5) (T := TX5) (N := 27) hx hb hts hw5 hown hK hP 0 cM_at0 rfl 0 (by decide) k7 (fun _ h9 => h9) rfl dX5_no_1 ?_
  refine lv_iload_n hx hb dX5_no_4 rfl (lv_at hl 1 rfl) ?_
  refine lv_ineg hx hb dX5_no_5 ?_
  refine lv_dup2_11 hx hb dX5_no_6 rfl rfl ?_
  obtain ⟨c_1, hf⟩ := gi_e hf
  refine va_iald hx hb hK hP 1 0 cM_at1 rfl c_1 dX5_no_7 ?_
  refine lv_iconst (v := 1) hx hb dX5_no_8 (by decide) ?_
  refine lv_iadd hx hb dX5_no_9 ?_
  obtain ⟨c_2, hf⟩ := gi_e hf
  refine va_iast hx hb hK hP hD hS 1 0 cM_at1 rfl c_2 dX5_no_10 (fun H locs hP hD hS => ?_)
  obtain ⟨h_3, eh_3, hf⟩ := nm_e hf
  rw [cM_su1, ← eh_3] at hP hD
  refine lv_iload_n hx hb dX5_no_11 rfl (lv_at hl 1 rfl) ?_
  exact hend (p1, h_3) H locs _ _ hf hP hS dX5_no_12

def f_X5_lower (M : St) (p1 : Int32) : Option (Int32 × St) := (gi (-p1) 7 (gi (-p1) 7 (nm (su M 0 ((-p1)).toNatClampNeg ((M 0 ((-p1)).toNatClampNeg) + (1 : Int32))) fun h_3 => (some (((1000000000 : Int32) - p1), h_3)))))
def rm_X5_lower : Room := { frames := 0, cells := 0, slots := 0, locals := 0 }
theorem hd_X5_lower : yX5_lower.cls = RX5 ∧ yX5_lower.cls ≠ "java/lang/invoke/MethodHandle" ∧ yX5_lower.cls ≠ "java/lang/invoke/VarHandle" ∧ (parseMethodDescriptor yX5_lower.desc).map (fun d => d.parameters.length) = some 1 := by decide +kernel
set_option maxRecDepth 100000 in
set_option maxHeartbeats 4000000 in
theorem c_X5_lower (l : Launch) (D : va_G) (cI : ClassId) (A : Nat → Nat) (M : St) (p1 : Int32) (r : Int32 × St) (hf : f_X5_lower M p1 = some r) : Ct l yX5_lower wsX5_lower rm_X5_lower D cI (cM cI A M) (cM cI A r.2) [.ref (A 0), .int p1] (some (.int r.1)) := by
  unfold f_X5_lower at hf
  refine Ct.ofI (cc := cX5_lower) (maxL := 2) (by decide +kernel) rfl (Nat.le_of_ble_eq_true rfl) ?_
  intro p e s m args below meth c AA Q H locs ls hx hb hml hown hts hA hK hP hD hS hl hend0
  have hend : ∀ (r1 : Int32 × St) (H : Heap) (locs : List Loc) (pc : Nat) (ls : Array Slot), some r1 = some r → va_P D vwCl (cM cI A r1.2) H → va_S AA s.heap H locs → decode cX5_lower pc = .ok (.ireturn, 1) → W p l e rm_X5_lower s m args below meth c H locs 0 0 Q (F0 m pc ls [.int r1.1]) := by
    intro r1 H locs pc ls e1 hP hS hd; cases e1; exact hend0 H locs pc ls hP hS hd
  clear hend0
  have hw5 : ∀ w ∈ wsX50, w ∈ wsX5_lower := by decide +kernel
  have k7 := hts (.fieldLink RX5 7 "AnchorsForConfessionModel" "refused" "[I") (by decide +kernel)
  have kc62 := hts (.constant RX5 62 1000000000) (by decide +kernel)
  replace hl : lv_has ls 2 [(0, .ref (A 0)), (1, .int p1)] := hl
  refine lv_aload_n hx hb dX5_lower_0 rfl (lv_at hl 0 rfl) ?_
  refine va_get (D := D) (ci := 5) (v := .ref (A 1)) (C := RX5) (T := TX5) (N := 27) hx hb hts hw5 hown hK hP 0 cM_at0 rfl 0 (by decide) k7 (fun _ h9 => h9) rfl dX5_lower_1 ?_
  refine lv_iload_n hx hb dX5_lower_4 rfl (lv_at hl 1 rfl) ?_
  refine lv_ineg hx hb dX5_lower_5 ?_
  refine lv_dup2_11 hx hb dX5_lower_6 rfl rfl ?_
  obtain ⟨c_1, hf⟩ := gi_e hf
  refine va_iald hx hb hK hP 1 0 cM_at1 rfl c_1 dX5_lower_7 ?_
  refine lv_iconst (v := 1) hx hb dX5_lower_8 (by decide) ?_
  refine lv_iadd hx hb dX5_lower_9 ?_
  obtain ⟨c_2, hf⟩ := gi_e hf
  refine va_iast hx hb hK hP hD hS 1 0 cM_at1 rfl c_2 dX5_lower_10 (fun H locs hP hD hS => ?_)
  obtain ⟨h_3, eh_3, hf⟩ := nm_e hf
  rw [cM_su1, ← eh_3] at hP hD
  refine lv_ldc (v := 1000000000) hx hb hown kc62 dX5_lower_11 ?_
  refine lv_iload_n hx hb dX5_lower_13 rfl (lv_at hl 1 rfl) ?_
  refine lv_isub hx hb dX5_lower_14 ?_
  exact hend (((1000000000 : Int32) - p1), h_3) H locs _ _ hf hP hS dX5_lower_15

def f_X5_lowestOf (M : St) (p1 : Int32) : Option (Int64 × St) := (gi (-p1) 7 (gi (-p1) 7 (nm (su M 0 ((-p1)).toNatClampNeg ((M 0 ((-p1)).toNatClampNeg) + (1 : Int32))) fun h_3 => (some (((4000000000000000000 : Int64) - (p1).toInt64), h_3)))))
def rm_X5_lowestOf : Room := { frames := 0, cells := 0, slots := 0, locals := 0 }
theorem hd_X5_lowestOf : yX5_lowestOf.cls = RX5 ∧ yX5_lowestOf.cls ≠ "java/lang/invoke/MethodHandle" ∧ yX5_lowestOf.cls ≠ "java/lang/invoke/VarHandle" ∧ (parseMethodDescriptor yX5_lowestOf.desc).map (fun d => d.parameters.length) = some 1 := by decide +kernel
set_option maxRecDepth 100000 in
set_option maxHeartbeats 4000000 in
theorem c_X5_lowestOf (l : Launch) (D : va_G) (cI : ClassId) (A : Nat → Nat) (M : St) (p1 : Int32) (r : Int64 × St) (hf : f_X5_lowestOf M p1 = some r) : Ct l yX5_lowestOf wsX5_lowestOf rm_X5_lowestOf D cI (cM cI A M) (cM cI A r.2) [.ref (A 0), .int p1] (some (.long r.1)) := by
  unfold f_X5_lowestOf at hf
  refine Ct.ofL (cc := cX5_lowestOf) (maxL := 2) (by decide +kernel) rfl (Nat.le_of_ble_eq_true rfl) ?_
  intro p e s m args below meth c AA Q H locs ls hx hb hml hown hts hA hK hP hD hS hl hend0
  have hend : ∀ (r1 : Int64 × St) (H : Heap) (locs : List Loc) (pc : Nat) (ls : Array Slot), some r1 = some r → va_P D vwCl (cM cI A r1.2) H → va_S AA s.heap H locs → decode cX5_lowestOf pc = .ok (.lreturn, 1) → W p l e rm_X5_lowestOf s m args below meth c H locs 0 0 Q (F0 m pc ls [.long r1.1]) := by
    intro r1 H locs pc ls e1 hP hS hd; cases e1; exact hend0 H locs pc ls hP hS hd
  clear hend0
  have hw5 : ∀ w ∈ wsX50, w ∈ wsX5_lowestOf := by decide +kernel
  have k7 := hts (.fieldLink RX5 7 "AnchorsForConfessionModel" "refused" "[I") (by decide +kernel)
  have kc63 := hts (.constantLong RX5 63 4000000000000000000) (by decide +kernel)
  replace hl : lv_has ls 2 [(0, .ref (A 0)), (1, .int p1)] := hl
  refine lv_aload_n hx hb dX5_lowestOf_0 rfl (lv_at hl 0 rfl) ?_
  refine va_get (D := D) (ci := 5) (v := .ref (A 1)) (C := RX5) (T := TX5) (N := 27) hx hb hts hw5 hown hK hP 0 cM_at0 rfl 0 (by decide) k7 (fun _ h9 => h9) rfl dX5_lowestOf_1 ?_
  refine lv_iload_n hx hb dX5_lowestOf_4 rfl (lv_at hl 1 rfl) ?_
  refine lv_ineg hx hb dX5_lowestOf_5 ?_
  refine lv_dup2_11 hx hb dX5_lowestOf_6 rfl rfl ?_
  obtain ⟨c_1, hf⟩ := gi_e hf
  refine va_iald hx hb hK hP 1 0 cM_at1 rfl c_1 dX5_lowestOf_7 ?_
  refine lv_iconst (v := 1) hx hb dX5_lowestOf_8 (by decide) ?_
  refine lv_iadd hx hb dX5_lowestOf_9 ?_
  obtain ⟨c_2, hf⟩ := gi_e hf
  refine va_iast hx hb hK hP hD hS 1 0 cM_at1 rfl c_2 dX5_lowestOf_10 (fun H locs hP hD hS => ?_)
  obtain ⟨h_3, eh_3, hf⟩ := nm_e hf
  rw [cM_su1, ← eh_3] at hP hD
  refine lv_ldc2 (v := 4000000000000000000) hx hb hown kc63 dX5_lowestOf_11 ?_
  refine lv_iload_n hx hb dX5_lowestOf_14 rfl (lv_at hl 1 rfl) ?_
  refine lv_i2l (v := (p1).toInt64) hx hb dX5_lowestOf_15 rfl ?_
  refine lv_lsub hx hb dX5_lowestOf_16 ?_
  exact hend (((4000000000000000000 : Int64) - (p1).toInt64), h_3) H locs _ _ hf hP hS dX5_lowestOf_17

def f_X5_isIn (p1 : Int32) (p2 : Int32) (p3 : Int32) : Option (Int32) := fz (if p1 < p2 then (some (0 : Int32)) else (if p3 < p1 then (some (0 : Int32)) else (some (1 : Int32))))
def rm_X5_isIn : Room := { frames := 0, cells := 0, slots := 0, locals := 0 }
theorem hd_X5_isIn : yX5_isIn.cls ≠ "java/lang/invoke/MethodHandle" ∧ yX5_isIn.cls ≠ "java/lang/invoke/VarHandle" ∧ (parseMethodDescriptor yX5_isIn.desc).map (fun d => d.parameters.length) = some 3 := by decide +kernel
set_option maxRecDepth 100000 in
set_option maxHeartbeats 4000000 in
theorem c_X5_isIn (l : Launch) (D : va_G) (cI : ClassId) (p1 : Int32) (p2 : Int32) (p3 : Int32) (r : Int32) (hf : f_X5_isIn p1 p2 p3 = some r) : Ct l yX5_isIn wsX5_isIn rm_X5_isIn D cI [] [] [.int p1, .int p2, .int p3] (some (.int r)) := by
  unfold f_X5_isIn at hf
  obtain ⟨hz, hf⟩ := fz_e hf
  refine Ct.ofZ hz (cc := cX5_isIn) (maxL := 3) (by decide +kernel) rfl (Nat.le_of_ble_eq_true rfl) ?_
  intro p e s m args below meth c AA Q H locs ls hx hb hml hown hts hA hK hP hD hS hl hend0
  have hend : ∀ (r1 : Int32) (H : Heap) (locs : List Loc) (pc : Nat) (ls : Array Slot), some r1 = some r → va_P D vwCl [] H → va_S AA s.heap H locs → decode cX5_isIn pc = .ok (.ireturn, 1) → W p l e rm_X5_isIn s m args below meth c H locs 0 0 Q (F0 m pc ls [.int r1]) := by
    intro r1 H locs pc ls e1 hP hS hd; cases e1; exact hend0 H locs pc ls hP hS hd
  clear hend0
  replace hl : lv_has ls 3 [(0, .int p1), (1, .int p2), (2, .int p3)] := hl
  refine lv_iload_n hx hb dX5_isIn_0 rfl (lv_at hl 0 rfl) ?_
  refine lv_iload_n hx hb dX5_isIn_1 rfl (lv_at hl 1 rfl) ?_
  refine lv_icmp_lt (tgt := 14) hx hb dX5_isIn_2 (by decide) (fun c_1 => ?_) (fun c_1 => ?_)
  · replace hf := if_t c_1 hf
    refine lv_iconst (v := 0) hx hb dX5_isIn_14 (by decide) ?_
    exact hend (0 : Int32) H locs _ _ hf hP hS dX5_isIn_15
  · replace hf := if_f c_1 hf
    refine lv_iload_n hx hb dX5_isIn_5 rfl (lv_at hl 0 rfl) ?_
    refine lv_iload_n hx hb dX5_isIn_6 rfl (lv_at hl 2 rfl) ?_
    refine lv_icmp_gt (tgt := 14) hx hb dX5_isIn_7 (by decide) (fun c_2 => ?_) (fun c_2 => ?_)
    · replace hf := if_t c_2 hf
      refine lv_iconst (v := 0) hx hb dX5_isIn_14 (by decide) ?_
      exact hend (0 : Int32) H locs _ _ hf hP hS dX5_isIn_15
    · replace hf := if_f c_2 hf
      refine lv_iconst (v := 1) hx hb dX5_isIn_10 (by decide) ?_
      refine lv_goto (tgt := 15) hx hb dX5_isIn_11 (by decide) ?_
      exact hend (1 : Int32) H locs _ _ hf hP hS dX5_isIn_15

def f_X5_bound (p1 : Int32) (p2 : Int32) (p3 : Int32) : Option (Int32) := (if p2 ≤ p1 then (if p1 ≤ p3 then (some (0 : Int32)) else (some (-6 : Int32))) else (some (-4 : Int32)))
def rm_X5_bound : Room := { frames := 0, cells := 0, slots := 0, locals := 0 }
theorem hd_X5_bound : yX5_bound.cls ≠ "java/lang/invoke/MethodHandle" ∧ yX5_bound.cls ≠ "java/lang/invoke/VarHandle" ∧ (parseMethodDescriptor yX5_bound.desc).map (fun d => d.parameters.length) = some 3 := by decide +kernel
set_option maxRecDepth 100000 in
set_option maxHeartbeats 4000000 in
theorem c_X5_bound (l : Launch) (D : va_G) (cI : ClassId) (p1 : Int32) (p2 : Int32) (p3 : Int32) (r : Int32) (hf : f_X5_bound p1 p2 p3 = some r) : Ct l yX5_bound wsX5_bound rm_X5_bound D cI [] [] [.int p1, .int p2, .int p3] (some (.int r)) := by
  unfold f_X5_bound at hf
  refine Ct.ofI (cc := cX5_bound) (maxL := 3) (by decide +kernel) rfl (Nat.le_of_ble_eq_true rfl) ?_
  intro p e s m args below meth c AA Q H locs ls hx hb hml hown hts hA hK hP hD hS hl hend0
  have hend : ∀ (r1 : Int32) (H : Heap) (locs : List Loc) (pc : Nat) (ls : Array Slot), some r1 = some r → va_P D vwCl [] H → va_S AA s.heap H locs → decode cX5_bound pc = .ok (.ireturn, 1) → W p l e rm_X5_bound s m args below meth c H locs 0 0 Q (F0 m pc ls [.int r1]) := by
    intro r1 H locs pc ls e1 hP hS hd; cases e1; exact hend0 H locs pc ls hP hS hd
  clear hend0
  replace hl : lv_has ls 3 [(0, .int p1), (1, .int p2), (2, .int p3)] := hl
  refine lv_iload_n hx hb dX5_bound_0 rfl (lv_at hl 0 rfl) ?_
  refine lv_iload_n hx hb dX5_bound_1 rfl (lv_at hl 1 rfl) ?_
  refine lv_icmp_ge (tgt := 10) hx hb dX5_bound_2 (by decide) (fun c_1 => ?_) (fun c_1 => ?_)
  · replace hf := if_t c_1 hf
    refine lv_iload_n hx hb dX5_bound_10 rfl (lv_at hl 0 rfl) ?_
    refine lv_iload_n hx hb dX5_bound_11 rfl (lv_at hl 2 rfl) ?_
    refine lv_icmp_le (tgt := 20) hx hb dX5_bound_12 (by decide) (fun c_2 => ?_) (fun c_2 => ?_)
    · replace hf := if_t c_2 hf
      refine lv_iconst (v := 0) hx hb dX5_bound_20 (by decide) ?_
      exact hend (0 : Int32) H locs _ _ hf hP hS dX5_bound_21
    · replace hf := if_f c_2 hf
      refine lv_bipush (v := -6) hx hb dX5_bound_15 (by decide +kernel) ?_
      refine lv_goto (tgt := 21) hx hb dX5_bound_17 (by decide) ?_
      exact hend (-6 : Int32) H locs _ _ hf hP hS dX5_bound_21
  · replace hf := if_f c_1 hf
    refine lv_bipush (v := -4) hx hb dX5_bound_5 (by decide +kernel) ?_
    refine lv_goto (tgt := 21) hx hb dX5_bound_7 (by decide) ?_
    exact hend (-4 : Int32) H locs _ _ hf hP hS dX5_bound_21

def f_X5_held (p1 : Int32) (p2 : Int32) (p3 : Int32) : Option (Int32) := (if p2 ≤ p1 then (if p1 ≤ p3 then (some p1) else (some p3)) else (some p2))
def rm_X5_held : Room := { frames := 0, cells := 0, slots := 0, locals := 0 }
theorem hd_X5_held : yX5_held.cls ≠ "java/lang/invoke/MethodHandle" ∧ yX5_held.cls ≠ "java/lang/invoke/VarHandle" ∧ (parseMethodDescriptor yX5_held.desc).map (fun d => d.parameters.length) = some 3 := by decide +kernel
set_option maxRecDepth 100000 in
set_option maxHeartbeats 4000000 in
theorem c_X5_held (l : Launch) (D : va_G) (cI : ClassId) (p1 : Int32) (p2 : Int32) (p3 : Int32) (r : Int32) (hf : f_X5_held p1 p2 p3 = some r) : Ct l yX5_held wsX5_held rm_X5_held D cI [] [] [.int p1, .int p2, .int p3] (some (.int r)) := by
  unfold f_X5_held at hf
  refine Ct.ofI (cc := cX5_held) (maxL := 3) (by decide +kernel) rfl (Nat.le_of_ble_eq_true rfl) ?_
  intro p e s m args below meth c AA Q H locs ls hx hb hml hown hts hA hK hP hD hS hl hend0
  have hend : ∀ (r1 : Int32) (H : Heap) (locs : List Loc) (pc : Nat) (ls : Array Slot), some r1 = some r → va_P D vwCl [] H → va_S AA s.heap H locs → decode cX5_held pc = .ok (.ireturn, 1) → W p l e rm_X5_held s m args below meth c H locs 0 0 Q (F0 m pc ls [.int r1]) := by
    intro r1 H locs pc ls e1 hP hS hd; cases e1; exact hend0 H locs pc ls hP hS hd
  clear hend0
  replace hl : lv_has ls 3 [(0, .int p1), (1, .int p2), (2, .int p3)] := hl
  refine lv_iload_n hx hb dX5_held_0 rfl (lv_at hl 0 rfl) ?_
  refine lv_iload_n hx hb dX5_held_1 rfl (lv_at hl 1 rfl) ?_
  refine lv_icmp_ge (tgt := 9) hx hb dX5_held_2 (by decide) (fun c_1 => ?_) (fun c_1 => ?_)
  · replace hf := if_t c_1 hf
    refine lv_iload_n hx hb dX5_held_9 rfl (lv_at hl 0 rfl) ?_
    refine lv_iload_n hx hb dX5_held_10 rfl (lv_at hl 2 rfl) ?_
    refine lv_icmp_le (tgt := 18) hx hb dX5_held_11 (by decide) (fun c_2 => ?_) (fun c_2 => ?_)
    · replace hf := if_t c_2 hf
      refine lv_iload_n hx hb dX5_held_18 rfl (lv_at hl 0 rfl) ?_
      exact hend p1 H locs _ _ hf hP hS dX5_held_19
    · replace hf := if_f c_2 hf
      refine lv_iload_n hx hb dX5_held_14 rfl (lv_at hl 2 rfl) ?_
      refine lv_goto (tgt := 19) hx hb dX5_held_15 (by decide) ?_
      exact hend p3 H locs _ _ hf hP hS dX5_held_19
  · replace hf := if_f c_1 hf
    refine lv_iload_n hx hb dX5_held_5 rfl (lv_at hl 1 rfl) ?_
    refine lv_goto (tgt := 19) hx hb dX5_held_6 (by decide) ?_
    exact hend p2 H locs _ _ hf hP hS dX5_held_19

def f_X5_has (p1 : Int32) (p2 : Int32) : Option (Int32) := fz (if ((p1 >>> (p2 &&& 31)) &&& (1 : Int32)) = (1 : Int32) then (some (1 : Int32)) else (some (0 : Int32)))
def rm_X5_has : Room := { frames := 0, cells := 0, slots := 0, locals := 0 }
theorem hd_X5_has : yX5_has.cls ≠ "java/lang/invoke/MethodHandle" ∧ yX5_has.cls ≠ "java/lang/invoke/VarHandle" ∧ (parseMethodDescriptor yX5_has.desc).map (fun d => d.parameters.length) = some 2 := by decide +kernel
set_option maxRecDepth 100000 in
set_option maxHeartbeats 4000000 in
theorem c_X5_has (l : Launch) (D : va_G) (cI : ClassId) (p1 : Int32) (p2 : Int32) (r : Int32) (hf : f_X5_has p1 p2 = some r) : Ct l yX5_has wsX5_has rm_X5_has D cI [] [] [.int p1, .int p2] (some (.int r)) := by
  unfold f_X5_has at hf
  obtain ⟨hz, hf⟩ := fz_e hf
  refine Ct.ofZ hz (cc := cX5_has) (maxL := 2) (by decide +kernel) rfl (Nat.le_of_ble_eq_true rfl) ?_
  intro p e s m args below meth c AA Q H locs ls hx hb hml hown hts hA hK hP hD hS hl hend0
  have hend : ∀ (r1 : Int32) (H : Heap) (locs : List Loc) (pc : Nat) (ls : Array Slot), some r1 = some r → va_P D vwCl [] H → va_S AA s.heap H locs → decode cX5_has pc = .ok (.ireturn, 1) → W p l e rm_X5_has s m args below meth c H locs 0 0 Q (F0 m pc ls [.int r1]) := by
    intro r1 H locs pc ls e1 hP hS hd; cases e1; exact hend0 H locs pc ls hP hS hd
  clear hend0
  replace hl : lv_has ls 2 [(0, .int p1), (1, .int p2)] := hl
  refine lv_iload_n hx hb dX5_has_0 rfl (lv_at hl 0 rfl) ?_
  refine lv_iload_n hx hb dX5_has_1 rfl (lv_at hl 1 rfl) ?_
  refine lv_ishr hx hb dX5_has_2 ?_
  refine lv_iconst (v := 1) hx hb dX5_has_3 (by decide) ?_
  refine lv_iand hx hb dX5_has_4 ?_
  refine lv_iconst (v := 1) hx hb dX5_has_5 (by decide) ?_
  refine lv_icmp_ne (tgt := 13) hx hb dX5_has_6 (by decide) (fun c_1 => ?_) (fun c_1 => ?_)
  · replace hf := if_f c_1 hf
    refine lv_iconst (v := 0) hx hb dX5_has_13 (by decide) ?_
    exact hend (0 : Int32) H locs _ _ hf hP hS dX5_has_14
  · replace hf := if_t c_1 hf
    refine lv_iconst (v := 1) hx hb dX5_has_9 (by decide) ?_
    refine lv_goto (tgt := 14) hx hb dX5_has_10 (by decide) ?_
    exact hend (1 : Int32) H locs _ _ hf hP hS dX5_has_14

def f_X5_bits (p1 : Int32) : Option (Int32) := (lp (fun (nx4 : (Int32 × Int32) → Option (Int32)) (q4 : Int32 × Int32) => (if (31 : Int32) ≤ q4.2 then (some q4.1) else (nm (q4.1 + ((p1 >>> (q4.2 &&& 31)) &&& (1 : Int32))) fun v_2 => (nm (q4.2 + (1 : Int32)) fun v_3 => (nx4 (v_2, v_3)))))) 1000 ((0 : Int32), (0 : Int32)))
def rm_X5_bits : Room := { frames := 0, cells := 0, slots := 0, locals := 0 }
theorem hd_X5_bits : yX5_bits.cls ≠ "java/lang/invoke/MethodHandle" ∧ yX5_bits.cls ≠ "java/lang/invoke/VarHandle" ∧ (parseMethodDescriptor yX5_bits.desc).map (fun d => d.parameters.length) = some 1 := by decide +kernel
set_option maxRecDepth 100000 in
set_option maxHeartbeats 4000000 in
theorem c_X5_bits (l : Launch) (D : va_G) (cI : ClassId) (p1 : Int32) (r : Int32) (hf : f_X5_bits p1 = some r) : Ct l yX5_bits wsX5_bits rm_X5_bits D cI [] [] [.int p1] (some (.int r)) := by
  unfold f_X5_bits at hf
  refine Ct.ofI (cc := cX5_bits) (maxL := 3) (by decide +kernel) rfl (Nat.le_of_ble_eq_true rfl) ?_
  intro p e s m args below meth c AA Q H locs ls hx hb hml hown hts hA hK hP hD hS hl hend0
  have hend : ∀ (r1 : Int32) (H : Heap) (locs : List Loc) (pc : Nat) (ls : Array Slot), some r1 = some r → va_P D vwCl [] H → va_S AA s.heap H locs → decode cX5_bits pc = .ok (.ireturn, 1) → W p l e rm_X5_bits s m args below meth c H locs 0 0 Q (F0 m pc ls [.int r1]) := by
    intro r1 H locs pc ls e1 hP hS hd; cases e1; exact hend0 H locs pc ls hP hS hd
  clear hend0
  replace hl : lv_has ls 3 [(0, .int p1)] := hl
  refine lv_iconst (v := 0) hx hb dX5_bits_0 (by decide) ?_
  refine lv_istore_n (lv' := [(1, .int (0 : Int32)), (0, .int p1)]) hx hb dX5_bits_1 rfl hl (by decide) rfl (fun ls hl => ?_)
  refine lv_iconst (v := 0) hx hb dX5_bits_2 (by decide) ?_
  refine lv_istore_n (lv' := [(2, .int (0 : Int32)), (1, .int (0 : Int32)), (0, .int p1)]) hx hb dX5_bits_3 rfl hl (by decide) rfl (fun ls hl => ?_)
  refine lp_ind (P := fun (q4 : Int32 × Int32) => ∀ (H : Heap) (locs : List Loc) (ls : Array Slot), va_P D vwCl [] H → va_D AA [] → va_S AA s.heap H locs → lv_has ls 3 [(0, .int p1), (1, .int q4.1), (2, .int q4.2)] → W p l e rm_X5_bits s m args below meth c H locs 0 0 Q (F0 m 4 ls [])) hf ?_ H locs ls hP hD hS (lv_sub hl [2, 1, 0] rfl)
  clear hf hP hD hS hl
  intro nx4 ih4 q4 hf H locs ls hP hD hS hl
  refine lv_iload_n hx hb dX5_bits_4 rfl (lv_at hl 2 rfl) ?_
  refine lv_bipush (v := 31) hx hb dX5_bits_5 (by decide +kernel) ?_
  refine lv_icmp_ge (tgt := 24) hx hb dX5_bits_7 (by decide) (fun c_1 => ?_) (fun c_1 => ?_)
  · replace hf := if_t c_1 hf
    refine lv_iload_n hx hb dX5_bits_24 rfl (lv_at hl 1 rfl) ?_
    exact hend q4.1 H locs _ _ hf hP hS dX5_bits_25
  · replace hf := if_f c_1 hf
    refine lv_iload_n hx hb dX5_bits_10 rfl (lv_at hl 1 rfl) ?_
    refine lv_iload_n hx hb dX5_bits_11 rfl (lv_at hl 0 rfl) ?_
    refine lv_iload_n hx hb dX5_bits_12 rfl (lv_at hl 2 rfl) ?_
    refine lv_ishr hx hb dX5_bits_13 ?_
    refine lv_iconst (v := 1) hx hb dX5_bits_14 (by decide) ?_
    refine lv_iand hx hb dX5_bits_15 ?_
    refine lv_iadd hx hb dX5_bits_16 ?_
    refine lv_topi (fun v_2 ev_2 => ?_)
    replace hf := nm_at ev_2 hf
    refine lv_istore_n (lv' := [(1, .int v_2), (0, .int p1), (2, .int q4.2)]) hx hb dX5_bits_17 rfl hl (by decide) rfl (fun ls hl => ?_)
    obtain ⟨v_3, ev_3, hf⟩ := nm_e hf
    refine lv_iinc (v := v_3) (lv' := [(2, .int v_3), (1, .int v_2), (0, .int p1)]) hx hb dX5_bits_18 hl (k := 2) rfl (by rw [ev_3]; rfl) (by decide) rfl (fun ls hl => ?_)
    refine lv_goto (tgt := 4) hx hb dX5_bits_21 (by decide) ?_
    exact ih4 (v_2, v_3) hf H locs ls hP hD hS (lv_sub hl [2, 1, 0] rfl)

def f_X5_isShip (M : St) (p1 : Int32) : Option (Int32) := fz (if p1 < 0 then (some (0 : Int32)) else (if (M 16 0) ≤ p1 then (some (0 : Int32)) else (some (1 : Int32))))
def rm_X5_isShip : Room := { frames := 0, cells := 0, slots := 0, locals := 0 }
theorem hd_X5_isShip : yX5_isShip.cls = RX5 ∧ yX5_isShip.cls ≠ "java/lang/invoke/MethodHandle" ∧ yX5_isShip.cls ≠ "java/lang/invoke/VarHandle" ∧ (parseMethodDescriptor yX5_isShip.desc).map (fun d => d.parameters.length) = some 1 := by decide +kernel
set_option maxRecDepth 100000 in
set_option maxHeartbeats 4000000 in
theorem c_X5_isShip (l : Launch) (D : va_G) (cI : ClassId) (A : Nat → Nat) (M : St) (p1 : Int32) (r : Int32) (hf : f_X5_isShip M p1 = some r) : Ct l yX5_isShip wsX5_isShip rm_X5_isShip D cI (cM cI A M) (cM cI A M) [.ref (A 0), .int p1] (some (.int r)) := by
  unfold f_X5_isShip at hf
  obtain ⟨hz, hf⟩ := fz_e hf
  refine Ct.ofZ hz (cc := cX5_isShip) (maxL := 2) (by decide +kernel) rfl (Nat.le_of_ble_eq_true rfl) ?_
  intro p e s m args below meth c AA Q H locs ls hx hb hml hown hts hA hK hP hD hS hl hend0
  have hend : ∀ (r1 : Int32) (H : Heap) (locs : List Loc) (pc : Nat) (ls : Array Slot), some r1 = some r → va_P D vwCl (cM cI A M) H → va_S AA s.heap H locs → decode cX5_isShip pc = .ok (.ireturn, 1) → W p l e rm_X5_isShip s m args below meth c H locs 0 0 Q (F0 m pc ls [.int r1]) := by
    intro r1 H locs pc ls e1 hP hS hd; cases e1; exact hend0 H locs pc ls hP hS hd
  clear hend0
  have hw5 : ∀ w ∈ wsX50, w ∈ wsX5_isShip := by decide +kernel
  have k58 := hts (.fieldLink RX5 58 "AnchorsForConfessionModel" "ships" "I") (by decide +kernel)
  replace hl : lv_has ls 2 [(0, .ref (A 0)), (1, .int p1)] := hl
  refine lv_iload_n hx hb dX5_isShip_0 rfl (lv_at hl 1 rfl) ?_
  refine lv_if_lt (tgt := 16) hx hb dX5_isShip_1 (by decide) (fun c_1 => ?_) (fun c_1 => ?_)
  · replace hf := if_t c_1 hf
    refine lv_iconst (v := 0) hx hb dX5_isShip_16 (by decide) ?_
    exact hend (0 : Int32) H locs _ _ hf hP hS dX5_isShip_17
  · replace hf := if_f c_1 hf
    refine lv_iload_n hx hb dX5_isShip_4 rfl (lv_at hl 1 rfl) ?_
    refine lv_aload_n hx hb dX5_isShip_5 rfl (lv_at hl 0 rfl) ?_
    refine va_get (D := D) (ci := 5) (v := .int (M 16 0)) (C := RX5) (T := TX5) (N := 27) hx hb hts hw5 hown hK hP 0 cM_at0 rfl 8 (by decide) k58 (fun _ h9 => h9) rfl dX5_isShip_6 ?_
    refine lv_icmp_ge (tgt := 16) hx hb dX5_isShip_9 (by decide) (fun c_2 => ?_) (fun c_2 => ?_)
    · replace hf := if_t c_2 hf
      refine lv_iconst (v := 0) hx hb dX5_isShip_16 (by decide) ?_
      exact hend (0 : Int32) H locs _ _ hf hP hS dX5_isShip_17
    · replace hf := if_f c_2 hf
      refine lv_iconst (v := 1) hx hb dX5_isShip_12 (by decide) ?_
      refine lv_goto (tgt := 17) hx hb dX5_isShip_13 (by decide) ?_
      exact hend (1 : Int32) H locs _ _ hf hP hS dX5_isShip_17

def f_X5_isMan (M : St) (p1 : Int32) : Option (Int32) := fz (if p1 < 0 then (some (0 : Int32)) else (if (M 16 1) ≤ p1 then (some (0 : Int32)) else (some (1 : Int32))))
def rm_X5_isMan : Room := { frames := 0, cells := 0, slots := 0, locals := 0 }
theorem hd_X5_isMan : yX5_isMan.cls = RX5 ∧ yX5_isMan.cls ≠ "java/lang/invoke/MethodHandle" ∧ yX5_isMan.cls ≠ "java/lang/invoke/VarHandle" ∧ (parseMethodDescriptor yX5_isMan.desc).map (fun d => d.parameters.length) = some 1 := by decide +kernel
set_option maxRecDepth 100000 in
set_option maxHeartbeats 4000000 in
theorem c_X5_isMan (l : Launch) (D : va_G) (cI : ClassId) (A : Nat → Nat) (M : St) (p1 : Int32) (r : Int32) (hf : f_X5_isMan M p1 = some r) : Ct l yX5_isMan wsX5_isMan rm_X5_isMan D cI (cM cI A M) (cM cI A M) [.ref (A 0), .int p1] (some (.int r)) := by
  unfold f_X5_isMan at hf
  obtain ⟨hz, hf⟩ := fz_e hf
  refine Ct.ofZ hz (cc := cX5_isMan) (maxL := 2) (by decide +kernel) rfl (Nat.le_of_ble_eq_true rfl) ?_
  intro p e s m args below meth c AA Q H locs ls hx hb hml hown hts hA hK hP hD hS hl hend0
  have hend : ∀ (r1 : Int32) (H : Heap) (locs : List Loc) (pc : Nat) (ls : Array Slot), some r1 = some r → va_P D vwCl (cM cI A M) H → va_S AA s.heap H locs → decode cX5_isMan pc = .ok (.ireturn, 1) → W p l e rm_X5_isMan s m args below meth c H locs 0 0 Q (F0 m pc ls [.int r1]) := by
    intro r1 H locs pc ls e1 hP hS hd; cases e1; exact hend0 H locs pc ls hP hS hd
  clear hend0
  have hw5 : ∀ w ∈ wsX50, w ∈ wsX5_isMan := by decide +kernel
  have k65 := hts (.fieldLink RX5 65 "AnchorsForConfessionModel" "men" "I") (by decide +kernel)
  replace hl : lv_has ls 2 [(0, .ref (A 0)), (1, .int p1)] := hl
  refine lv_iload_n hx hb dX5_isMan_0 rfl (lv_at hl 1 rfl) ?_
  refine lv_if_lt (tgt := 16) hx hb dX5_isMan_1 (by decide) (fun c_1 => ?_) (fun c_1 => ?_)
  · replace hf := if_t c_1 hf
    refine lv_iconst (v := 0) hx hb dX5_isMan_16 (by decide) ?_
    exact hend (0 : Int32) H locs _ _ hf hP hS dX5_isMan_17
  · replace hf := if_f c_1 hf
    refine lv_iload_n hx hb dX5_isMan_4 rfl (lv_at hl 1 rfl) ?_
    refine lv_aload_n hx hb dX5_isMan_5 rfl (lv_at hl 0 rfl) ?_
    refine va_get (D := D) (ci := 5) (v := .int (M 16 1)) (C := RX5) (T := TX5) (N := 27) hx hb hts hw5 hown hK hP 0 cM_at0 rfl 9 (by decide) k65 (fun _ h9 => h9) rfl dX5_isMan_6 ?_
    refine lv_icmp_ge (tgt := 16) hx hb dX5_isMan_9 (by decide) (fun c_2 => ?_) (fun c_2 => ?_)
    · replace hf := if_t c_2 hf
      refine lv_iconst (v := 0) hx hb dX5_isMan_16 (by decide) ?_
      exact hend (0 : Int32) H locs _ _ hf hP hS dX5_isMan_17
    · replace hf := if_f c_2 hf
      refine lv_iconst (v := 1) hx hb dX5_isMan_12 (by decide) ?_
      refine lv_goto (tgt := 17) hx hb dX5_isMan_13 (by decide) ?_
      exact hend (1 : Int32) H locs _ _ hf hP hS dX5_isMan_17

def f_X5_letter (M : St) (p1 : Int32) : Option (Int32 × St) := (bd (f_X5_bound p1 (0 : Int32) (255 : Int32)) fun a_1 => (if a_1 = 0 then (if (M 16 4) = (96 : Int32) then (bd (f_X5_no M (-6 : Int32)) fun a_14 => (some (a_14.1, a_14.2))) else (if a_1 = 0 then (gi (M 16 4) 96 (nm (su M 8 ((M 16 4)).toNatClampNeg p1) fun h_11 => (nm (su h_11 16 4 ((h_11 16 4) + (1 : Int32))) fun h_12 => (some ((h_12 16 4), h_12))))) else (bd (f_X5_no M a_1) fun a_13 => (some (a_13.1, a_13.2))))) else (if a_1 = 0 then (gi (M 16 4) 96 (nm (su M 8 ((M 16 4)).toNatClampNeg p1) fun h_5 => (nm (su h_5 16 4 ((h_5 16 4) + (1 : Int32))) fun h_6 => (some ((h_6 16 4), h_6))))) else (bd (f_X5_no M a_1) fun a_7 => (some (a_7.1, a_7.2))))))
def rm_X5_letter : Room := { frames := 1, cells := 0, slots := 0, locals := 22 }
theorem hd_X5_letter : yX5_letter.cls = RX5 ∧ yX5_letter.cls ≠ "java/lang/invoke/MethodHandle" ∧ yX5_letter.cls ≠ "java/lang/invoke/VarHandle" ∧ (parseMethodDescriptor yX5_letter.desc).map (fun d => d.parameters.length) = some 1 := by decide +kernel
set_option maxRecDepth 100000 in
set_option maxHeartbeats 4000000 in
theorem c_X5_letter (l : Launch) (D : va_G) (cI : ClassId) (A : Nat → Nat) (M : St) (p1 : Int32) (r : Int32 × St) (hf : f_X5_letter M p1 = some r) : Ct l yX5_letter wsX5_letter rm_X5_letter D cI (cM cI A M) (cM cI A r.2) [.ref (A 0), .int p1] (some (.int r.1)) := by
  unfold f_X5_letter at hf
  refine Ct.ofI (cc := cX5_letter) (maxL := 3) (by decide +kernel) rfl (Nat.le_of_ble_eq_true rfl) ?_
  intro p e s m args below meth c AA Q H locs ls hx hb hml hown hts hA hK hP hD hS hl hend0
  have hend : ∀ (r1 : Int32 × St) (H : Heap) (locs : List Loc) (pc : Nat) (ls : Array Slot), some r1 = some r → va_P D vwCl (cM cI A r1.2) H → va_S AA s.heap H locs → decode cX5_letter pc = .ok (.ireturn, 1) → W p l e rm_X5_letter s m args below meth c H locs 0 0 Q (F0 m pc ls [.int r1.1]) := by
    intro r1 H locs pc ls e1 hP hS hd; cases e1; exact hend0 H locs pc ls hP hS hd
  clear hend0
  have hw5 : ∀ w ∈ wsX50, w ∈ wsX5_letter := by decide +kernel
  have k34 := hts (.fieldLink RX5 34 "AnchorsForConfessionModel" "tape" "[I") (by decide +kernel)
  have k72 := hts (.fieldLink RX5 72 "AnchorsForConfessionModel" "taped" "I") (by decide +kernel)
  replace hl : lv_has ls 3 [(0, .ref (A 0)), (1, .int p1)] := hl
  refine lv_iload_n hx hb dX5_letter_0 rfl (lv_at hl 1 rfl) ?_
  refine lv_iconst (v := 0) hx hb dX5_letter_1 (by decide) ?_
  refine lv_sipush (v := 255) hx hb dX5_letter_2 (by decide +kernel) ?_
  obtain ⟨a_1, ha_1, hf⟩ := bd_e hf
  refine Ct.callS (As := [.int p1, .int (0 : Int32), .int (255 : Int32)]) (rest := []) (st1 := [.int a_1]) (c_X5_bound l D cI  p1 (0 : Int32) (255 : Int32) a_1 ha_1) hx hb hml hown hts (va_cwS 3 hts gX5_letter_X5_bound rfl rfl rfl hd_X5_bound ⟨Nat.le_of_ble_eq_true rfl, Nat.le_of_ble_eq_true rfl⟩) Ln.nil hA hK hP hD hS rfl hl.1 rfl rfl (Nat.le_of_ble_eq_true rfl) dX5_letter_5 (fun H locs hP hD hS => ?_)
  refine lv_istore_n (lv' := [(2, .int a_1), (0, .ref (A 0)), (1, .int p1)]) hx hb dX5_letter_8 rfl hl (by decide) rfl (fun ls hl => ?_)
  refine lv_iload_n hx hb dX5_letter_9 rfl (lv_at hl 0 rfl) ?_
  refine lv_if_ne (tgt := 25) hx hb dX5_letter_10 (by decide) (fun c_2 => ?_) (fun c_2 => ?_)
  · replace hf := if_f c_2 hf
    refine lv_iload_n hx hb dX5_letter_25 rfl (lv_at hl 0 rfl) ?_
    refine lv_if_eq (tgt := 35) hx hb dX5_letter_26 (by decide) (fun c_3 => ?_) (fun c_3 => ?_)
    · replace hf := if_t c_3 hf
      refine lv_aload_n hx hb dX5_letter_35 rfl (lv_at hl 1 rfl) ?_
      refine va_get (D := D) (ci := 5) (v := .ref (A 9)) (C := RX5) (T := TX5) (N := 27) hx hb hts hw5 hown hK hP 0 cM_at0 rfl 12 (by decide) k34 (fun _ h9 => h9) rfl dX5_letter_36 ?_
      refine lv_aload_n hx hb dX5_letter_39 rfl (lv_at hl 1 rfl) ?_
      refine va_get (D := D) (ci := 5) (v := .int (M 16 4)) (C := RX5) (T := TX5) (N := 27) hx hb hts hw5 hown hK hP 0 cM_at0 rfl 16 (by decide) k72 (fun _ h9 => h9) rfl dX5_letter_40 ?_
      refine lv_iload_n hx hb dX5_letter_43 rfl (lv_at hl 2 rfl) ?_
      obtain ⟨c_4, hf⟩ := gi_e hf
      refine va_iast hx hb hK hP hD hS 9 0 cM_at9 rfl c_4 dX5_letter_44 (fun H locs hP hD hS => ?_)
      obtain ⟨h_5, eh_5, hf⟩ := nm_e hf
      rw [cM_su9, ← eh_5] at hP hD
      refine lv_aload_n hx hb dX5_letter_45 rfl (lv_at hl 1 rfl) ?_
      refine lv_dup hx hb dX5_letter_46 rfl ?_
      refine va_get (D := D) (ci := 5) (v := .int (h_5 16 4)) (C := RX5) (T := TX5) (N := 27) hx hb hts hw5 hown hK hP 0 cM_at0 rfl 16 (by decide) k72 (fun _ h9 => h9) rfl dX5_letter_47 ?_
      refine lv_iconst (v := 1) hx hb dX5_letter_50 (by decide) ?_
      refine lv_iadd hx hb dX5_letter_51 ?_
      refine va_put (D := D) (ci := 5) (v := .int ((h_5 16 4) + (1 : Int32))) (ty := .int) (C := RX5) (T := TX5) (N := 27) hx hb hts hw5 tyX5 tyX5_ok nmX5 hown hK hP hD hS 0 cM_at0 rfl 16 (by decide) k72 (fun _ h9 => h9) rfl (tyX5_ok 16 (by decide)) rfl rfl (Nat.le_of_ble_eq_true rfl) dX5_letter_52 (fun H locs hP hD hS => ?_)
      obtain ⟨h_6, eh_6, hf⟩ := nm_e hf
      rw [cM_sc0_16, ← eh_6] at hP hD
      refine lv_aload_n hx hb dX5_letter_55 rfl (lv_at hl 1 rfl) ?_
      refine va_get (D := D) (ci := 5) (v := .int (h_6 16 4)) (C := RX5) (T := TX5) (N := 27) hx hb hts hw5 hown hK hP 0 cM_at0 rfl 16 (by decide) k72 (fun _ h9 => h9) rfl dX5_letter_56 ?_
      exact hend ((h_6 16 4), h_6) H locs _ _ hf hP hS dX5_letter_59
    · replace hf := if_f c_3 hf
      refine lv_aload_n hx hb dX5_letter_29 rfl (lv_at hl 1 rfl) ?_
      refine lv_iload_n hx hb dX5_letter_30 rfl (lv_at hl 0 rfl) ?_
      obtain ⟨a_7, ha_7, hf⟩ := bd_e hf
      refine Ct.callV (As := [.int a_1]) (rest := []) (st1 := [.int a_7.1]) (c_X5_no l D cI A M a_1 a_7 ha_7) hx hb hml hown hts (cwV 1 hts gX5_letter_X5_no rfl rfl rfl hd_X5_no ⟨Nat.le_of_ble_eq_true rfl, Nat.le_of_ble_eq_true rfl⟩) (va_recv hK hP (ci := 5) (q0 := 0) rfl cM_at0) (Ln.id rfl) hA hK hP hD hS rfl hl.1 rfl rfl (Nat.le_of_ble_eq_true rfl) dX5_letter_31 (fun H locs hP hD hS => ?_)
      replace hP : va_P D vwCl (cM cI A a_7.2) H := hP
      replace hD : va_D AA (cM cI A a_7.2) := hD
      exact hend (a_7.1, a_7.2) H locs _ _ hf hP hS dX5_letter_34
  · replace hf := if_t c_2 hf
    refine lv_aload_n hx hb dX5_letter_13 rfl (lv_at hl 1 rfl) ?_
    refine va_get (D := D) (ci := 5) (v := .int (M 16 4)) (C := RX5) (T := TX5) (N := 27) hx hb hts hw5 hown hK hP 0 cM_at0 rfl 16 (by decide) k72 (fun _ h9 => h9) rfl dX5_letter_14 ?_
    refine lv_bipush (v := 96) hx hb dX5_letter_17 (by decide +kernel) ?_
    refine lv_icmp_ne (tgt := 25) hx hb dX5_letter_19 (by decide) (fun c_8 => ?_) (fun c_8 => ?_)
    · replace hf := if_f c_8 hf
      refine lv_iload_n hx hb dX5_letter_25 rfl (lv_at hl 0 rfl) ?_
      refine lv_if_eq (tgt := 35) hx hb dX5_letter_26 (by decide) (fun c_9 => ?_) (fun c_9 => ?_)
      · replace hf := if_t c_9 hf
        refine lv_aload_n hx hb dX5_letter_35 rfl (lv_at hl 1 rfl) ?_
        refine va_get (D := D) (ci := 5) (v := .ref (A 9)) (C := RX5) (T := TX5) (N := 27) hx hb hts hw5 hown hK hP 0 cM_at0 rfl 12 (by decide) k34 (fun _ h9 => h9) rfl dX5_letter_36 ?_
        refine lv_aload_n hx hb dX5_letter_39 rfl (lv_at hl 1 rfl) ?_
        refine va_get (D := D) (ci := 5) (v := .int (M 16 4)) (C := RX5) (T := TX5) (N := 27) hx hb hts hw5 hown hK hP 0 cM_at0 rfl 16 (by decide) k72 (fun _ h9 => h9) rfl dX5_letter_40 ?_
        refine lv_iload_n hx hb dX5_letter_43 rfl (lv_at hl 2 rfl) ?_
        obtain ⟨c_10, hf⟩ := gi_e hf
        refine va_iast hx hb hK hP hD hS 9 0 cM_at9 rfl c_10 dX5_letter_44 (fun H locs hP hD hS => ?_)
        obtain ⟨h_11, eh_11, hf⟩ := nm_e hf
        rw [cM_su9, ← eh_11] at hP hD
        refine lv_aload_n hx hb dX5_letter_45 rfl (lv_at hl 1 rfl) ?_
        refine lv_dup hx hb dX5_letter_46 rfl ?_
        refine va_get (D := D) (ci := 5) (v := .int (h_11 16 4)) (C := RX5) (T := TX5) (N := 27) hx hb hts hw5 hown hK hP 0 cM_at0 rfl 16 (by decide) k72 (fun _ h9 => h9) rfl dX5_letter_47 ?_
        refine lv_iconst (v := 1) hx hb dX5_letter_50 (by decide) ?_
        refine lv_iadd hx hb dX5_letter_51 ?_
        refine va_put (D := D) (ci := 5) (v := .int ((h_11 16 4) + (1 : Int32))) (ty := .int) (C := RX5) (T := TX5) (N := 27) hx hb hts hw5 tyX5 tyX5_ok nmX5 hown hK hP hD hS 0 cM_at0 rfl 16 (by decide) k72 (fun _ h9 => h9) rfl (tyX5_ok 16 (by decide)) rfl rfl (Nat.le_of_ble_eq_true rfl) dX5_letter_52 (fun H locs hP hD hS => ?_)
        obtain ⟨h_12, eh_12, hf⟩ := nm_e hf
        rw [cM_sc0_16, ← eh_12] at hP hD
        refine lv_aload_n hx hb dX5_letter_55 rfl (lv_at hl 1 rfl) ?_
        refine va_get (D := D) (ci := 5) (v := .int (h_12 16 4)) (C := RX5) (T := TX5) (N := 27) hx hb hts hw5 hown hK hP 0 cM_at0 rfl 16 (by decide) k72 (fun _ h9 => h9) rfl dX5_letter_56 ?_
        exact hend ((h_12 16 4), h_12) H locs _ _ hf hP hS dX5_letter_59
      · replace hf := if_f c_9 hf
        refine lv_aload_n hx hb dX5_letter_29 rfl (lv_at hl 1 rfl) ?_
        refine lv_iload_n hx hb dX5_letter_30 rfl (lv_at hl 0 rfl) ?_
        obtain ⟨a_13, ha_13, hf⟩ := bd_e hf
        refine Ct.callV (As := [.int a_1]) (rest := []) (st1 := [.int a_13.1]) (c_X5_no l D cI A M a_1 a_13 ha_13) hx hb hml hown hts (cwV 1 hts gX5_letter_X5_no rfl rfl rfl hd_X5_no ⟨Nat.le_of_ble_eq_true rfl, Nat.le_of_ble_eq_true rfl⟩) (va_recv hK hP (ci := 5) (q0 := 0) rfl cM_at0) (Ln.id rfl) hA hK hP hD hS rfl hl.1 rfl rfl (Nat.le_of_ble_eq_true rfl) dX5_letter_31 (fun H locs hP hD hS => ?_)
        replace hP : va_P D vwCl (cM cI A a_13.2) H := hP
        replace hD : va_D AA (cM cI A a_13.2) := hD
        exact hend (a_13.1, a_13.2) H locs _ _ hf hP hS dX5_letter_34
    · replace hf := if_t c_8 hf
      refine lv_bipush (v := -6) hx hb dX5_letter_22 (by decide +kernel) ?_
      refine lv_istore_n (lv' := [(2, .int (-6 : Int32)), (0, .ref (A 0)), (1, .int p1)]) hx hb dX5_letter_24 rfl hl (by decide) rfl (fun ls hl => ?_)
      refine lv_iload_n hx hb dX5_letter_25 rfl (lv_at hl 0 rfl) ?_
      refine lv_if_eq (tgt := 35) hx hb dX5_letter_26 (by decide) (fun c0 => absurd c0 (by decide)) (fun _ => ?_)
      refine lv_aload_n hx hb dX5_letter_29 rfl (lv_at hl 1 rfl) ?_
      refine lv_iload_n hx hb dX5_letter_30 rfl (lv_at hl 0 rfl) ?_
      obtain ⟨a_14, ha_14, hf⟩ := bd_e hf
      refine Ct.callV (As := [.int (-6 : Int32)]) (rest := []) (st1 := [.int a_14.1]) (c_X5_no l D cI A M (-6 : Int32) a_14 ha_14) hx hb hml hown hts (cwV 1 hts gX5_letter_X5_no rfl rfl rfl hd_X5_no ⟨Nat.le_of_ble_eq_true rfl, Nat.le_of_ble_eq_true rfl⟩) (va_recv hK hP (ci := 5) (q0 := 0) rfl cM_at0) (Ln.id rfl) hA hK hP hD hS rfl hl.1 rfl rfl (Nat.le_of_ble_eq_true rfl) dX5_letter_31 (fun H locs hP hD hS => ?_)
      replace hP : va_P D vwCl (cM cI A a_14.2) H := hP
      replace hD : va_D AA (cM cI A a_14.2) := hD
      exact hend (a_14.1, a_14.2) H locs _ _ hf hP hS dX5_letter_34

def f_X5_next (M : St) : Option (Int32) := (if (M 16 4) ≤ (M 16 5) then (some (-1 : Int32)) else (gi (M 16 5) 96 (some (M 8 ((M 16 5)).toNatClampNeg))))
def rm_X5_next : Room := { frames := 0, cells := 0, slots := 0, locals := 0 }
theorem hd_X5_next : yX5_next.cls = RX5 ∧ yX5_next.cls ≠ "java/lang/invoke/MethodHandle" ∧ yX5_next.cls ≠ "java/lang/invoke/VarHandle" ∧ (parseMethodDescriptor yX5_next.desc).map (fun d => d.parameters.length) = some 0 := by decide +kernel
set_option maxRecDepth 100000 in
set_option maxHeartbeats 4000000 in
theorem c_X5_next (l : Launch) (D : va_G) (cI : ClassId) (A : Nat → Nat) (M : St) (r : Int32) (hf : f_X5_next M = some r) : Ct l yX5_next wsX5_next rm_X5_next D cI (cM cI A M) (cM cI A M) [.ref (A 0)] (some (.int r)) := by
  unfold f_X5_next at hf
  refine Ct.ofI (cc := cX5_next) (maxL := 1) (by decide +kernel) rfl (Nat.le_of_ble_eq_true rfl) ?_
  intro p e s m args below meth c AA Q H locs ls hx hb hml hown hts hA hK hP hD hS hl hend0
  have hend : ∀ (r1 : Int32) (H : Heap) (locs : List Loc) (pc : Nat) (ls : Array Slot), some r1 = some r → va_P D vwCl (cM cI A M) H → va_S AA s.heap H locs → decode cX5_next pc = .ok (.ireturn, 1) → W p l e rm_X5_next s m args below meth c H locs 0 0 Q (F0 m pc ls [.int r1]) := by
    intro r1 H locs pc ls e1 hP hS hd; cases e1; exact hend0 H locs pc ls hP hS hd
  clear hend0
  have hw5 : ∀ w ∈ wsX50, w ∈ wsX5_next := by decide +kernel
  have k34 := hts (.fieldLink RX5 34 "AnchorsForConfessionModel" "tape" "[I") (by decide +kernel)
  have k72 := hts (.fieldLink RX5 72 "AnchorsForConfessionModel" "taped" "I") (by decide +kernel)
  have k79 := hts (.fieldLink RX5 79 "AnchorsForConfessionModel" "at" "I") (by decide +kernel)
  replace hl : lv_has ls 1 [(0, .ref (A 0))] := hl
  refine lv_aload_n hx hb dX5_next_0 rfl (lv_at hl 0 rfl) ?_
  refine va_get (D := D) (ci := 5) (v := .int (M 16 5)) (C := RX5) (T := TX5) (N := 27) hx hb hts hw5 hown hK hP 0 cM_at0 rfl 17 (by decide) k79 (fun _ h9 => h9) rfl dX5_next_1 ?_
  refine lv_aload_n hx hb dX5_next_4 rfl (lv_at hl 0 rfl) ?_
  refine va_get (D := D) (ci := 5) (v := .int (M 16 4)) (C := RX5) (T := TX5) (N := 27) hx hb hts hw5 hown hK hP 0 cM_at0 rfl 16 (by decide) k72 (fun _ h9 => h9) rfl dX5_next_5 ?_
  refine lv_icmp_ge (tgt := 23) hx hb dX5_next_8 (by decide) (fun c_1 => ?_) (fun c_1 => ?_)
  · replace hf := if_t c_1 hf
    refine lv_iconst (v := -1) hx hb dX5_next_23 (by decide) ?_
    exact hend (-1 : Int32) H locs _ _ hf hP hS dX5_next_24
  · replace hf := if_f c_1 hf
    refine lv_aload_n hx hb dX5_next_11 rfl (lv_at hl 0 rfl) ?_
    refine va_get (D := D) (ci := 5) (v := .ref (A 9)) (C := RX5) (T := TX5) (N := 27) hx hb hts hw5 hown hK hP 0 cM_at0 rfl 12 (by decide) k34 (fun _ h9 => h9) rfl dX5_next_12 ?_
    refine lv_aload_n hx hb dX5_next_15 rfl (lv_at hl 0 rfl) ?_
    refine va_get (D := D) (ci := 5) (v := .int (M 16 5)) (C := RX5) (T := TX5) (N := 27) hx hb hts hw5 hown hK hP 0 cM_at0 rfl 17 (by decide) k79 (fun _ h9 => h9) rfl dX5_next_16 ?_
    obtain ⟨c_2, hf⟩ := gi_e hf
    refine va_iald hx hb hK hP 9 0 cM_at9 rfl c_2 dX5_next_19 ?_
    refine lv_goto (tgt := 24) hx hb dX5_next_20 (by decide) ?_
    exact hend (M 8 ((M 16 5)).toNatClampNeg) H locs _ _ hf hP hS dX5_next_24

def f_X5_readsDigits (M : St) (p1 : Int32) (p2 : Int32) : Option (Int32 × St) := fzp (lp (fun (nx5 : (Int32 × Int32 × St) → Option (Int32 × St)) (q5 : Int32 × Int32 × St) => (if p2 ≤ q5.2.1 then (gi p1 192 (nm (su q5.2.2 11 (p1).toNatClampNeg q5.1) fun h_3 => (some ((1 : Int32), h_3)))) else (bd (f_X5_next q5.2.2) fun a_4 => (bd (f_X5_isIn a_4 (48 : Int32) (57 : Int32)) fun a_5 => (if a_5 = 0 then (some ((0 : Int32), q5.2.2)) else (bd (f_X5_next q5.2.2) fun a_7 => (nm ((((10 : Int32) * q5.1) + a_7) - (48 : Int32)) fun v_8 => (nm (su q5.2.2 16 5 ((q5.2.2 16 5) + (1 : Int32))) fun h_9 => (nm (q5.2.1 + (1 : Int32)) fun v_10 => (nx5 (v_8, v_10, h_9))))))))))) 1000 ((0 : Int32), (0 : Int32), M))
def rm_X5_readsDigits : Room := { frames := 1, cells := 0, slots := 0, locals := 22 }
theorem hd_X5_readsDigits : yX5_readsDigits.cls = RX5 ∧ yX5_readsDigits.cls ≠ "java/lang/invoke/MethodHandle" ∧ yX5_readsDigits.cls ≠ "java/lang/invoke/VarHandle" ∧ (parseMethodDescriptor yX5_readsDigits.desc).map (fun d => d.parameters.length) = some 2 := by decide +kernel
set_option maxRecDepth 100000 in
set_option maxHeartbeats 4000000 in
theorem c_X5_readsDigits (l : Launch) (D : va_G) (cI : ClassId) (A : Nat → Nat) (M : St) (p1 : Int32) (p2 : Int32) (r : Int32 × St) (hf : f_X5_readsDigits M p1 p2 = some r) : Ct l yX5_readsDigits wsX5_readsDigits rm_X5_readsDigits D cI (cM cI A M) (cM cI A r.2) [.ref (A 0), .int p1, .int p2] (some (.int r.1)) := by
  unfold f_X5_readsDigits at hf
  obtain ⟨hz, hf⟩ := fzp_e hf
  refine Ct.ofZ hz (cc := cX5_readsDigits) (maxL := 5) (by decide +kernel) rfl (Nat.le_of_ble_eq_true rfl) ?_
  intro p e s m args below meth c AA Q H locs ls hx hb hml hown hts hA hK hP hD hS hl hend0
  have hend : ∀ (r1 : Int32 × St) (H : Heap) (locs : List Loc) (pc : Nat) (ls : Array Slot), some r1 = some r → va_P D vwCl (cM cI A r1.2) H → va_S AA s.heap H locs → decode cX5_readsDigits pc = .ok (.ireturn, 1) → W p l e rm_X5_readsDigits s m args below meth c H locs 0 0 Q (F0 m pc ls [.int r1.1]) := by
    intro r1 H locs pc ls e1 hP hS hd; cases e1; exact hend0 H locs pc ls hP hS hd
  clear hend0
  have hw5 : ∀ w ∈ wsX50, w ∈ wsX5_readsDigits := by decide +kernel
  have k43 := hts (.fieldLink RX5 43 "AnchorsForConfessionModel" "told" "[I") (by decide +kernel)
  have k79 := hts (.fieldLink RX5 79 "AnchorsForConfessionModel" "at" "I") (by decide +kernel)
  replace hl : lv_has ls 5 [(0, .ref (A 0)), (1, .int p1), (2, .int p2)] := hl
  refine lv_iconst (v := 0) hx hb dX5_readsDigits_0 (by decide) ?_
  refine lv_istore_n (lv' := [(3, .int (0 : Int32)), (0, .ref (A 0)), (1, .int p1), (2, .int p2)]) hx hb dX5_readsDigits_1 rfl hl (by decide) rfl (fun ls hl => ?_)
  refine lv_iconst (v := 0) hx hb dX5_readsDigits_2 (by decide) ?_
  refine lv_istore (lv' := [(4, .int (0 : Int32)), (3, .int (0 : Int32)), (0, .ref (A 0)), (1, .int p1), (2, .int p2)]) hx hb dX5_readsDigits_3 hl (by decide) rfl (fun ls hl => ?_)
  refine lp_ind (P := fun (q5 : Int32 × Int32 × St) => ∀ (H : Heap) (locs : List Loc) (ls : Array Slot), va_P D vwCl (cM cI A q5.2.2) H → va_D AA (cM cI A q5.2.2) → va_S AA s.heap H locs → lv_has ls 5 [(0, .ref (A 0)), (1, .int p1), (2, .int p2), (3, .int q5.1), (4, .int q5.2.1)] → W p l e rm_X5_readsDigits s m args below meth c H locs 0 0 Q (F0 m 5 ls [])) hf ?_ H locs ls hP hD hS (lv_sub hl [2, 3, 4, 1, 0] rfl)
  clear hf hP hD hS hl
  intro nx5 ih5 q5 hf H locs ls hP hD hS hl
  refine lv_iload hx hb dX5_readsDigits_5 (lv_at hl 4 rfl) ?_
  refine lv_iload_n hx hb dX5_readsDigits_7 rfl (lv_at hl 2 rfl) ?_
  refine lv_icmp_ge (tgt := 56) hx hb dX5_readsDigits_8 (by decide) (fun c_1 => ?_) (fun c_1 => ?_)
  · replace hf := if_t c_1 hf
    refine lv_aload_n hx hb dX5_readsDigits_56 rfl (lv_at hl 0 rfl) ?_
    refine va_get (D := D) (ci := 5) (v := .ref (A 12)) (C := RX5) (T := TX5) (N := 27) hx hb hts hw5 hown hK hP 0 cM_at0 rfl 15 (by decide) k43 (fun _ h9 => h9) rfl dX5_readsDigits_57 ?_
    refine lv_iload_n hx hb dX5_readsDigits_60 rfl (lv_at hl 1 rfl) ?_
    refine lv_iload_n hx hb dX5_readsDigits_61 rfl (lv_at hl 3 rfl) ?_
    obtain ⟨c_2, hf⟩ := gi_e hf
    refine va_iast hx hb hK hP hD hS 12 0 cM_at12 rfl c_2 dX5_readsDigits_62 (fun H locs hP hD hS => ?_)
    obtain ⟨h_3, eh_3, hf⟩ := nm_e hf
    rw [cM_su12, ← eh_3] at hP hD
    refine lv_iconst (v := 1) hx hb dX5_readsDigits_63 (by decide) ?_
    exact hend ((1 : Int32), h_3) H locs _ _ hf hP hS dX5_readsDigits_64
  · replace hf := if_f c_1 hf
    refine lv_aload_n hx hb dX5_readsDigits_11 rfl (lv_at hl 0 rfl) ?_
    obtain ⟨a_4, ha_4, hf⟩ := bd_e hf
    refine Ct.callV (As := []) (rest := []) (st1 := [.int a_4]) (c_X5_next l D cI A q5.2.2 a_4 ha_4) hx hb hml hown hts (cwV 0 hts gX5_readsDigits_X5_next rfl rfl rfl hd_X5_next ⟨Nat.le_of_ble_eq_true rfl, Nat.le_of_ble_eq_true rfl⟩) (va_recv hK hP (ci := 5) (q0 := 0) rfl cM_at0) (Ln.id rfl) hA hK hP hD hS rfl hl.1 rfl rfl (Nat.le_of_ble_eq_true rfl) dX5_readsDigits_12 (fun H locs hP hD hS => ?_)
    refine lv_bipush (v := 48) hx hb dX5_readsDigits_15 (by decide +kernel) ?_
    refine lv_bipush (v := 57) hx hb dX5_readsDigits_17 (by decide +kernel) ?_
    obtain ⟨a_5, ha_5, hf⟩ := bd_e hf
    refine Ct.callS (As := [.int a_4, .int (48 : Int32), .int (57 : Int32)]) (rest := []) (st1 := [.int a_5]) (c_X5_isIn l D cI  a_4 (48 : Int32) (57 : Int32) a_5 ha_5) hx hb hml hown hts (va_cwS 3 hts gX5_readsDigits_X5_isIn rfl rfl rfl hd_X5_isIn ⟨Nat.le_of_ble_eq_true rfl, Nat.le_of_ble_eq_true rfl⟩) Ln.nil hA hK hP hD hS rfl hl.1 rfl rfl (Nat.le_of_ble_eq_true rfl) dX5_readsDigits_19 (fun H locs hP hD hS => ?_)
    refine lv_if_ne (tgt := 27) hx hb dX5_readsDigits_22 (by decide) (fun c_6 => ?_) (fun c_6 => ?_)
    · replace hf := if_f c_6 hf
      refine lv_bipush (v := 10) hx hb dX5_readsDigits_27 (by decide +kernel) ?_
      refine lv_iload_n hx hb dX5_readsDigits_29 rfl (lv_at hl 3 rfl) ?_
      refine lv_imul hx hb dX5_readsDigits_30 ?_
      refine lv_aload_n hx hb dX5_readsDigits_31 rfl (lv_at hl 0 rfl) ?_
      obtain ⟨a_7, ha_7, hf⟩ := bd_e hf
      refine Ct.callV (As := []) (rest := [.int ((10 : Int32) * q5.1)]) (st1 := [.int a_7, .int ((10 : Int32) * q5.1)]) (c_X5_next l D cI A q5.2.2 a_7 ha_7) hx hb hml hown hts (cwV 0 hts gX5_readsDigits_X5_next rfl rfl rfl hd_X5_next ⟨Nat.le_of_ble_eq_true rfl, Nat.le_of_ble_eq_true rfl⟩) (va_recv hK hP (ci := 5) (q0 := 0) rfl cM_at0) (Ln.id rfl) hA hK hP hD hS rfl hl.1 rfl rfl (Nat.le_of_ble_eq_true rfl) dX5_readsDigits_32 (fun H locs hP hD hS => ?_)
      refine lv_iadd hx hb dX5_readsDigits_35 ?_
      refine lv_bipush (v := 48) hx hb dX5_readsDigits_36 (by decide +kernel) ?_
      refine lv_isub hx hb dX5_readsDigits_38 ?_
      refine lv_topi (fun v_8 ev_8 => ?_)
      replace hf := nm_at ev_8 hf
      refine lv_istore_n (lv' := [(3, .int v_8), (0, .ref (A 0)), (1, .int p1), (2, .int p2), (4, .int q5.2.1)]) hx hb dX5_readsDigits_39 rfl hl (by decide) rfl (fun ls hl => ?_)
      refine lv_aload_n hx hb dX5_readsDigits_40 rfl (lv_at hl 1 rfl) ?_
      refine lv_dup hx hb dX5_readsDigits_41 rfl ?_
      refine va_get (D := D) (ci := 5) (v := .int (q5.2.2 16 5)) (C := RX5) (T := TX5) (N := 27) hx hb hts hw5 hown hK hP 0 cM_at0 rfl 17 (by decide) k79 (fun _ h9 => h9) rfl dX5_readsDigits_42 ?_
      refine lv_iconst (v := 1) hx hb dX5_readsDigits_45 (by decide) ?_
      refine lv_iadd hx hb dX5_readsDigits_46 ?_
      refine va_put (D := D) (ci := 5) (v := .int ((q5.2.2 16 5) + (1 : Int32))) (ty := .int) (C := RX5) (T := TX5) (N := 27) hx hb hts hw5 tyX5 tyX5_ok nmX5 hown hK hP hD hS 0 cM_at0 rfl 17 (by decide) k79 (fun _ h9 => h9) rfl (tyX5_ok 17 (by decide)) rfl rfl (Nat.le_of_ble_eq_true rfl) dX5_readsDigits_47 (fun H locs hP hD hS => ?_)
      obtain ⟨h_9, eh_9, hf⟩ := nm_e hf
      rw [cM_sc0_17, ← eh_9] at hP hD
      obtain ⟨v_10, ev_10, hf⟩ := nm_e hf
      refine lv_iinc (v := v_10) (lv' := [(4, .int v_10), (3, .int v_8), (0, .ref (A 0)), (1, .int p1), (2, .int p2)]) hx hb dX5_readsDigits_50 hl (k := 4) rfl (by rw [ev_10]; rfl) (by decide) rfl (fun ls hl => ?_)
      refine lv_goto (tgt := 5) hx hb dX5_readsDigits_53 (by decide) ?_
      exact ih5 (v_8, v_10, h_9) hf H locs ls hP hD hS (lv_sub hl [2, 3, 4, 1, 0] rfl)
    · replace hf := if_t c_6 hf
      refine lv_iconst (v := 0) hx hb dX5_readsDigits_25 (by decide) ?_
      exact hend ((0 : Int32), q5.2.2) H locs _ _ hf hP hS dX5_readsDigits_26

def f_X5_kindOf (p1 : Int32) : Option (Int32) := (if p1 = (104 : Int32) then (some (0 : Int32)) else (if p1 = (112 : Int32) then (some (1 : Int32)) else (if p1 = (109 : Int32) then (some (2 : Int32)) else (if p1 = (115 : Int32) then (some (3 : Int32)) else (if p1 = (97 : Int32) then (some (4 : Int32)) else (if p1 = (98 : Int32) then (some (5 : Int32)) else (some (-1 : Int32))))))))
def rm_X5_kindOf : Room := { frames := 0, cells := 0, slots := 0, locals := 0 }
theorem hd_X5_kindOf : yX5_kindOf.cls ≠ "java/lang/invoke/MethodHandle" ∧ yX5_kindOf.cls ≠ "java/lang/invoke/VarHandle" ∧ (parseMethodDescriptor yX5_kindOf.desc).map (fun d => d.parameters.length) = some 1 := by decide +kernel
set_option maxRecDepth 100000 in
set_option maxHeartbeats 4000000 in
theorem c_X5_kindOf (l : Launch) (D : va_G) (cI : ClassId) (p1 : Int32) (r : Int32) (hf : f_X5_kindOf p1 = some r) : Ct l yX5_kindOf wsX5_kindOf rm_X5_kindOf D cI [] [] [.int p1] (some (.int r)) := by
  unfold f_X5_kindOf at hf
  refine Ct.ofI (cc := cX5_kindOf) (maxL := 1) (by decide +kernel) rfl (Nat.le_of_ble_eq_true rfl) ?_
  intro p e s m args below meth c AA Q H locs ls hx hb hml hown hts hA hK hP hD hS hl hend0
  have hend : ∀ (r1 : Int32) (H : Heap) (locs : List Loc) (pc : Nat) (ls : Array Slot), some r1 = some r → va_P D vwCl [] H → va_S AA s.heap H locs → decode cX5_kindOf pc = .ok (.ireturn, 1) → W p l e rm_X5_kindOf s m args below meth c H locs 0 0 Q (F0 m pc ls [.int r1]) := by
    intro r1 H locs pc ls e1 hP hS hd; cases e1; exact hend0 H locs pc ls hP hS hd
  clear hend0
  replace hl : lv_has ls 1 [(0, .int p1)] := hl
  refine lv_iload_n hx hb dX5_kindOf_0 rfl (lv_at hl 0 rfl) ?_
  refine lv_bipush (v := 104) hx hb dX5_kindOf_1 (by decide +kernel) ?_
  refine lv_icmp_ne (tgt := 10) hx hb dX5_kindOf_3 (by decide) (fun c_1 => ?_) (fun c_1 => ?_)
  · replace hf := if_f c_1 hf
    refine lv_iload_n hx hb dX5_kindOf_10 rfl (lv_at hl 0 rfl) ?_
    refine lv_bipush (v := 112) hx hb dX5_kindOf_11 (by decide +kernel) ?_
    refine lv_icmp_ne (tgt := 20) hx hb dX5_kindOf_13 (by decide) (fun c_2 => ?_) (fun c_2 => ?_)
    · replace hf := if_f c_2 hf
      refine lv_iload_n hx hb dX5_kindOf_20 rfl (lv_at hl 0 rfl) ?_
      refine lv_bipush (v := 109) hx hb dX5_kindOf_21 (by decide +kernel) ?_
      refine lv_icmp_ne (tgt := 30) hx hb dX5_kindOf_23 (by decide) (fun c_3 => ?_) (fun c_3 => ?_)
      · replace hf := if_f c_3 hf
        refine lv_iload_n hx hb dX5_kindOf_30 rfl (lv_at hl 0 rfl) ?_
        refine lv_bipush (v := 115) hx hb dX5_kindOf_31 (by decide +kernel) ?_
        refine lv_icmp_ne (tgt := 40) hx hb dX5_kindOf_33 (by decide) (fun c_4 => ?_) (fun c_4 => ?_)
        · replace hf := if_f c_4 hf
          refine lv_iload_n hx hb dX5_kindOf_40 rfl (lv_at hl 0 rfl) ?_
          refine lv_bipush (v := 97) hx hb dX5_kindOf_41 (by decide +kernel) ?_
          refine lv_icmp_ne (tgt := 50) hx hb dX5_kindOf_43 (by decide) (fun c_5 => ?_) (fun c_5 => ?_)
          · replace hf := if_f c_5 hf
            refine lv_iload_n hx hb dX5_kindOf_50 rfl (lv_at hl 0 rfl) ?_
            refine lv_bipush (v := 98) hx hb dX5_kindOf_51 (by decide +kernel) ?_
            refine lv_icmp_ne (tgt := 60) hx hb dX5_kindOf_53 (by decide) (fun c_6 => ?_) (fun c_6 => ?_)
            · replace hf := if_f c_6 hf
              refine lv_iconst (v := -1) hx hb dX5_kindOf_60 (by decide) ?_
              exact hend (-1 : Int32) H locs _ _ hf hP hS dX5_kindOf_61
            · replace hf := if_t c_6 hf
              refine lv_iconst (v := 5) hx hb dX5_kindOf_56 (by decide) ?_
              refine lv_goto (tgt := 61) hx hb dX5_kindOf_57 (by decide) ?_
              exact hend (5 : Int32) H locs _ _ hf hP hS dX5_kindOf_61
          · replace hf := if_t c_5 hf
            refine lv_iconst (v := 4) hx hb dX5_kindOf_46 (by decide) ?_
            refine lv_goto (tgt := 61) hx hb dX5_kindOf_47 (by decide) ?_
            exact hend (4 : Int32) H locs _ _ hf hP hS dX5_kindOf_61
        · replace hf := if_t c_4 hf
          refine lv_iconst (v := 3) hx hb dX5_kindOf_36 (by decide) ?_
          refine lv_goto (tgt := 61) hx hb dX5_kindOf_37 (by decide) ?_
          exact hend (3 : Int32) H locs _ _ hf hP hS dX5_kindOf_61
      · replace hf := if_t c_3 hf
        refine lv_iconst (v := 2) hx hb dX5_kindOf_26 (by decide) ?_
        refine lv_goto (tgt := 61) hx hb dX5_kindOf_27 (by decide) ?_
        exact hend (2 : Int32) H locs _ _ hf hP hS dX5_kindOf_61
    · replace hf := if_t c_2 hf
      refine lv_iconst (v := 1) hx hb dX5_kindOf_16 (by decide) ?_
      refine lv_goto (tgt := 61) hx hb dX5_kindOf_17 (by decide) ?_
      exact hend (1 : Int32) H locs _ _ hf hP hS dX5_kindOf_61
  · replace hf := if_t c_1 hf
    refine lv_iconst (v := 0) hx hb dX5_kindOf_6 (by decide) ?_
    refine lv_goto (tgt := 61) hx hb dX5_kindOf_7 (by decide) ?_
    exact hend (0 : Int32) H locs _ _ hf hP hS dX5_kindOf_61

def f_X5_readsMan (M : St) (p1 : Int32) : Option (Int32 × St) := fzp (bd (f_X5_next M) fun a_1 => (bd (f_X5_kindOf a_1) fun a_2 => (gi p1 192 (nm (su M 11 (p1).toNatClampNeg a_2) fun h_4 => (gi p1 192 (if 0 ≤ (h_4 11 (p1).toNatClampNeg) then (nm (su h_4 16 5 ((h_4 16 5) + (1 : Int32))) fun h_7 => (bd (f_X5_readsDigits h_7 (p1 + (1 : Int32)) (1 : Int32)) fun a_8 => (if a_8.1 = 0 then (some ((0 : Int32), a_8.2)) else (bd (f_X5_readsDigits a_8.2 (p1 + (2 : Int32)) (1 : Int32)) fun a_10 => (if a_10.1 = 0 then (some ((0 : Int32), a_10.2)) else (bd (f_X5_readsDigits a_10.2 (p1 + (3 : Int32)) (1 : Int32)) fun a_12 => (if a_12.1 = 0 then (some ((0 : Int32), a_12.2)) else (some ((1 : Int32), a_12.2))))))))) else (some ((0 : Int32), h_4))))))))
def rm_X5_readsMan : Room := { frames := 2, cells := 0, slots := 0, locals := 46 }
theorem hd_X5_readsMan : yX5_readsMan.cls = RX5 ∧ yX5_readsMan.cls ≠ "java/lang/invoke/MethodHandle" ∧ yX5_readsMan.cls ≠ "java/lang/invoke/VarHandle" ∧ (parseMethodDescriptor yX5_readsMan.desc).map (fun d => d.parameters.length) = some 1 := by decide +kernel
set_option maxRecDepth 100000 in
set_option maxHeartbeats 4000000 in
theorem c_X5_readsMan (l : Launch) (D : va_G) (cI : ClassId) (A : Nat → Nat) (M : St) (p1 : Int32) (r : Int32 × St) (hf : f_X5_readsMan M p1 = some r) : Ct l yX5_readsMan wsX5_readsMan rm_X5_readsMan D cI (cM cI A M) (cM cI A r.2) [.ref (A 0), .int p1] (some (.int r.1)) := by
  unfold f_X5_readsMan at hf
  obtain ⟨hz, hf⟩ := fzp_e hf
  refine Ct.ofZ hz (cc := cX5_readsMan) (maxL := 2) (by decide +kernel) rfl (Nat.le_of_ble_eq_true rfl) ?_
  intro p e s m args below meth c AA Q H locs ls hx hb hml hown hts hA hK hP hD hS hl hend0
  have hend : ∀ (r1 : Int32 × St) (H : Heap) (locs : List Loc) (pc : Nat) (ls : Array Slot), some r1 = some r → va_P D vwCl (cM cI A r1.2) H → va_S AA s.heap H locs → decode cX5_readsMan pc = .ok (.ireturn, 1) → W p l e rm_X5_readsMan s m args below meth c H locs 0 0 Q (F0 m pc ls [.int r1.1]) := by
    intro r1 H locs pc ls e1 hP hS hd; cases e1; exact hend0 H locs pc ls hP hS hd
  clear hend0
  have hw5 : ∀ w ∈ wsX50, w ∈ wsX5_readsMan := by decide +kernel
  have k43 := hts (.fieldLink RX5 43 "AnchorsForConfessionModel" "told" "[I") (by decide +kernel)
  have k79 := hts (.fieldLink RX5 79 "AnchorsForConfessionModel" "at" "I") (by decide +kernel)
  replace hl : lv_has ls 2 [(0, .ref (A 0)), (1, .int p1)] := hl
  refine lv_aload_n hx hb dX5_readsMan_0 rfl (lv_at hl 0 rfl) ?_
  refine va_get (D := D) (ci := 5) (v := .ref (A 12)) (C := RX5) (T := TX5) (N := 27) hx hb hts hw5 hown hK hP 0 cM_at0 rfl 15 (by decide) k43 (fun _ h9 => h9) rfl dX5_readsMan_1 ?_
  refine lv_iload_n hx hb dX5_readsMan_4 rfl (lv_at hl 1 rfl) ?_
  refine lv_aload_n hx hb dX5_readsMan_5 rfl (lv_at hl 0 rfl) ?_
  obtain ⟨a_1, ha_1, hf⟩ := bd_e hf
  refine Ct.callV (As := []) (rest := [.int p1, .ref (A 12)]) (st1 := [.int a_1, .int p1, .ref (A 12)]) (c_X5_next l D cI A M a_1 ha_1) hx hb hml hown hts (cwV 0 hts gX5_readsMan_X5_next rfl rfl rfl hd_X5_next ⟨Nat.le_of_ble_eq_true rfl, Nat.le_of_ble_eq_true rfl⟩) (va_recv hK hP (ci := 5) (q0 := 0) rfl cM_at0) (Ln.id rfl) hA hK hP hD hS rfl hl.1 rfl rfl (Nat.le_of_ble_eq_true rfl) dX5_readsMan_6 (fun H locs hP hD hS => ?_)
  obtain ⟨a_2, ha_2, hf⟩ := bd_e hf
  refine Ct.callS (As := [.int a_1]) (rest := [.int p1, .ref (A 12)]) (st1 := [.int a_2, .int p1, .ref (A 12)]) (c_X5_kindOf l D cI  a_1 a_2 ha_2) hx hb hml hown hts (va_cwS 1 hts gX5_readsMan_X5_kindOf rfl rfl rfl hd_X5_kindOf ⟨Nat.le_of_ble_eq_true rfl, Nat.le_of_ble_eq_true rfl⟩) Ln.nil hA hK hP hD hS rfl hl.1 rfl rfl (Nat.le_of_ble_eq_true rfl) dX5_readsMan_9 (fun H locs hP hD hS => ?_)
  obtain ⟨c_3, hf⟩ := gi_e hf
  refine va_iast hx hb hK hP hD hS 12 0 cM_at12 rfl c_3 dX5_readsMan_12 (fun H locs hP hD hS => ?_)
  obtain ⟨h_4, eh_4, hf⟩ := nm_e hf
  rw [cM_su12, ← eh_4] at hP hD
  refine lv_aload_n hx hb dX5_readsMan_13 rfl (lv_at hl 0 rfl) ?_
  refine va_get (D := D) (ci := 5) (v := .ref (A 12)) (C := RX5) (T := TX5) (N := 27) hx hb hts hw5 hown hK hP 0 cM_at0 rfl 15 (by decide) k43 (fun _ h9 => h9) rfl dX5_readsMan_14 ?_
  refine lv_iload_n hx hb dX5_readsMan_17 rfl (lv_at hl 1 rfl) ?_
  obtain ⟨c_5, hf⟩ := gi_e hf
  refine va_iald hx hb hK hP 12 0 cM_at12 rfl c_5 dX5_readsMan_18 ?_
  refine lv_if_ge (tgt := 24) hx hb dX5_readsMan_19 (by decide) (fun c_6 => ?_) (fun c_6 => ?_)
  · replace hf := if_t c_6 hf
    refine lv_aload_n hx hb dX5_readsMan_24 rfl (lv_at hl 0 rfl) ?_
    refine lv_dup hx hb dX5_readsMan_25 rfl ?_
    refine va_get (D := D) (ci := 5) (v := .int (h_4 16 5)) (C := RX5) (T := TX5) (N := 27) hx hb hts hw5 hown hK hP 0 cM_at0 rfl 17 (by decide) k79 (fun _ h9 => h9) rfl dX5_readsMan_26 ?_
    refine lv_iconst (v := 1) hx hb dX5_readsMan_29 (by decide) ?_
    refine lv_iadd hx hb dX5_readsMan_30 ?_
    refine va_put (D := D) (ci := 5) (v := .int ((h_4 16 5) + (1 : Int32))) (ty := .int) (C := RX5) (T := TX5) (N := 27) hx hb hts hw5 tyX5 tyX5_ok nmX5 hown hK hP hD hS 0 cM_at0 rfl 17 (by decide) k79 (fun _ h9 => h9) rfl (tyX5_ok 17 (by decide)) rfl rfl (Nat.le_of_ble_eq_true rfl) dX5_readsMan_31 (fun H locs hP hD hS => ?_)
    obtain ⟨h_7, eh_7, hf⟩ := nm_e hf
    rw [cM_sc0_17, ← eh_7] at hP hD
    refine lv_aload_n hx hb dX5_readsMan_34 rfl (lv_at hl 0 rfl) ?_
    refine lv_iload_n hx hb dX5_readsMan_35 rfl (lv_at hl 1 rfl) ?_
    refine lv_iconst (v := 1) hx hb dX5_readsMan_36 (by decide) ?_
    refine lv_iadd hx hb dX5_readsMan_37 ?_
    refine lv_iconst (v := 1) hx hb dX5_readsMan_38 (by decide) ?_
    obtain ⟨a_8, ha_8, hf⟩ := bd_e hf
    refine Ct.callV (As := [.int (p1 + (1 : Int32)), .int (1 : Int32)]) (rest := []) (st1 := [.int a_8.1]) (c_X5_readsDigits l D cI A h_7 (p1 + (1 : Int32)) (1 : Int32) a_8 ha_8) hx hb hml hown hts (cwV 2 hts gX5_readsMan_X5_readsDigits rfl rfl rfl hd_X5_readsDigits ⟨Nat.le_of_ble_eq_true rfl, Nat.le_of_ble_eq_true rfl⟩) (va_recv hK hP (ci := 5) (q0 := 0) rfl cM_at0) (Ln.id rfl) hA hK hP hD hS rfl hl.1 rfl rfl (Nat.le_of_ble_eq_true rfl) dX5_readsMan_39 (fun H locs hP hD hS => ?_)
    replace hP : va_P D vwCl (cM cI A a_8.2) H := hP
    replace hD : va_D AA (cM cI A a_8.2) := hD
    refine lv_if_eq (tgt := 71) hx hb dX5_readsMan_42 (by decide) (fun c_9 => ?_) (fun c_9 => ?_)
    · replace hf := if_t c_9 hf
      refine lv_iconst (v := 0) hx hb dX5_readsMan_71 (by decide) ?_
      exact hend ((0 : Int32), a_8.2) H locs _ _ hf hP hS dX5_readsMan_72
    · replace hf := if_f c_9 hf
      refine lv_aload_n hx hb dX5_readsMan_45 rfl (lv_at hl 0 rfl) ?_
      refine lv_iload_n hx hb dX5_readsMan_46 rfl (lv_at hl 1 rfl) ?_
      refine lv_iconst (v := 2) hx hb dX5_readsMan_47 (by decide) ?_
      refine lv_iadd hx hb dX5_readsMan_48 ?_
      refine lv_iconst (v := 1) hx hb dX5_readsMan_49 (by decide) ?_
      obtain ⟨a_10, ha_10, hf⟩ := bd_e hf
      refine Ct.callV (As := [.int (p1 + (2 : Int32)), .int (1 : Int32)]) (rest := []) (st1 := [.int a_10.1]) (c_X5_readsDigits l D cI A a_8.2 (p1 + (2 : Int32)) (1 : Int32) a_10 ha_10) hx hb hml hown hts (cwV 2 hts gX5_readsMan_X5_readsDigits rfl rfl rfl hd_X5_readsDigits ⟨Nat.le_of_ble_eq_true rfl, Nat.le_of_ble_eq_true rfl⟩) (va_recv hK hP (ci := 5) (q0 := 0) rfl cM_at0) (Ln.id rfl) hA hK hP hD hS rfl hl.1 rfl rfl (Nat.le_of_ble_eq_true rfl) dX5_readsMan_50 (fun H locs hP hD hS => ?_)
      replace hP : va_P D vwCl (cM cI A a_10.2) H := hP
      replace hD : va_D AA (cM cI A a_10.2) := hD
      refine lv_if_eq (tgt := 71) hx hb dX5_readsMan_53 (by decide) (fun c_11 => ?_) (fun c_11 => ?_)
      · replace hf := if_t c_11 hf
        refine lv_iconst (v := 0) hx hb dX5_readsMan_71 (by decide) ?_
        exact hend ((0 : Int32), a_10.2) H locs _ _ hf hP hS dX5_readsMan_72
      · replace hf := if_f c_11 hf
        refine lv_aload_n hx hb dX5_readsMan_56 rfl (lv_at hl 0 rfl) ?_
        refine lv_iload_n hx hb dX5_readsMan_57 rfl (lv_at hl 1 rfl) ?_
        refine lv_iconst (v := 3) hx hb dX5_readsMan_58 (by decide) ?_
        refine lv_iadd hx hb dX5_readsMan_59 ?_
        refine lv_iconst (v := 1) hx hb dX5_readsMan_60 (by decide) ?_
        obtain ⟨a_12, ha_12, hf⟩ := bd_e hf
        refine Ct.callV (As := [.int (p1 + (3 : Int32)), .int (1 : Int32)]) (rest := []) (st1 := [.int a_12.1]) (c_X5_readsDigits l D cI A a_10.2 (p1 + (3 : Int32)) (1 : Int32) a_12 ha_12) hx hb hml hown hts (cwV 2 hts gX5_readsMan_X5_readsDigits rfl rfl rfl hd_X5_readsDigits ⟨Nat.le_of_ble_eq_true rfl, Nat.le_of_ble_eq_true rfl⟩) (va_recv hK hP (ci := 5) (q0 := 0) rfl cM_at0) (Ln.id rfl) hA hK hP hD hS rfl hl.1 rfl rfl (Nat.le_of_ble_eq_true rfl) dX5_readsMan_61 (fun H locs hP hD hS => ?_)
        replace hP : va_P D vwCl (cM cI A a_12.2) H := hP
        replace hD : va_D AA (cM cI A a_12.2) := hD
        refine lv_if_eq (tgt := 71) hx hb dX5_readsMan_64 (by decide) (fun c_13 => ?_) (fun c_13 => ?_)
        · replace hf := if_t c_13 hf
          refine lv_iconst (v := 0) hx hb dX5_readsMan_71 (by decide) ?_
          exact hend ((0 : Int32), a_12.2) H locs _ _ hf hP hS dX5_readsMan_72
        · replace hf := if_f c_13 hf
          refine lv_iconst (v := 1) hx hb dX5_readsMan_67 (by decide) ?_
          refine lv_goto (tgt := 72) hx hb dX5_readsMan_68 (by decide) ?_
          exact hend ((1 : Int32), a_12.2) H locs _ _ hf hP hS dX5_readsMan_72
  · replace hf := if_f c_6 hf
    refine lv_iconst (v := 0) hx hb dX5_readsMan_22 (by decide) ?_
    exact hend ((0 : Int32), h_4) H locs _ _ hf hP hS dX5_readsMan_23

def f_X5_readsAll (M : St) (p1 : Int32) (p2 : Int32) : Option (Int32 × St) := fzp (if p1 = 109 then (bd (f_X5_readsMan M p2) fun a_2 => (some (a_2.1, a_2.2))) else (if p1 = 115 then (bd (f_X5_readsDigits M p2 (1 : Int32)) fun a_4 => (some (a_4.1, a_4.2))) else (if p1 = 116 then (bd (f_X5_readsDigits M p2 (1 : Int32)) fun a_6 => (some (a_6.1, a_6.2))) else (if p1 = 119 then (bd (f_X5_readsDigits M p2 (2 : Int32)) fun a_8 => (some (a_8.1, a_8.2))) else (bd (f_X5_readsDigits M p2 (1 : Int32)) fun a_9 => (if a_9.1 = 0 then (some ((0 : Int32), a_9.2)) else (bd (f_X5_readsDigits a_9.2 (p2 + (1 : Int32)) (1 : Int32)) fun a_11 => (if a_11.1 = 0 then (some ((0 : Int32), a_11.2)) else (some ((1 : Int32), a_11.2))))))))))
def rm_X5_readsAll : Room := { frames := 3, cells := 0, slots := 0, locals := 67 }
theorem hd_X5_readsAll : yX5_readsAll.cls = RX5 ∧ yX5_readsAll.cls ≠ "java/lang/invoke/MethodHandle" ∧ yX5_readsAll.cls ≠ "java/lang/invoke/VarHandle" ∧ (parseMethodDescriptor yX5_readsAll.desc).map (fun d => d.parameters.length) = some 2 := by decide +kernel
set_option maxRecDepth 100000 in
set_option maxHeartbeats 4000000 in
theorem c_X5_readsAll (l : Launch) (D : va_G) (cI : ClassId) (A : Nat → Nat) (M : St) (p1 : Int32) (p2 : Int32) (r : Int32 × St) (hf : f_X5_readsAll M p1 p2 = some r) : Ct l yX5_readsAll wsX5_readsAll rm_X5_readsAll D cI (cM cI A M) (cM cI A r.2) [.ref (A 0), .int p1, .int p2] (some (.int r.1)) := by
  unfold f_X5_readsAll at hf
  obtain ⟨hz, hf⟩ := fzp_e hf
  refine Ct.ofZ hz (cc := cX5_readsAll) (maxL := 3) (by decide +kernel) rfl (Nat.le_of_ble_eq_true rfl) ?_
  intro p e s m args below meth c AA Q H locs ls hx hb hml hown hts hA hK hP hD hS hl hend0
  have hend : ∀ (r1 : Int32 × St) (H : Heap) (locs : List Loc) (pc : Nat) (ls : Array Slot), some r1 = some r → va_P D vwCl (cM cI A r1.2) H → va_S AA s.heap H locs → decode cX5_readsAll pc = .ok (.ireturn, 1) → W p l e rm_X5_readsAll s m args below meth c H locs 0 0 Q (F0 m pc ls [.int r1.1]) := by
    intro r1 H locs pc ls e1 hP hS hd; cases e1; exact hend0 H locs pc ls hP hS hd
  clear hend0
  replace hl : lv_has ls 3 [(0, .ref (A 0)), (1, .int p1), (2, .int p2)] := hl
  refine lv_iload_n hx hb dX5_readsAll_0 rfl (lv_at hl 1 rfl) ?_
  by_cases c_1 : p1 = 109
  · replace hf := if_t c_1 hf
    refine lv_lookup (off := 43) (tgt := 44) hx hb dX5_readsAll_1 (by decide) (by rw [c_1]; decide +kernel) (by decide) ?_
    refine lv_aload_n hx hb dX5_readsAll_44 rfl (lv_at hl 0 rfl) ?_
    refine lv_iload_n hx hb dX5_readsAll_45 rfl (lv_at hl 2 rfl) ?_
    obtain ⟨a_2, ha_2, hf⟩ := bd_e hf
    refine Ct.callV (As := [.int p2]) (rest := []) (st1 := [.int a_2.1]) (c_X5_readsMan l D cI A M p2 a_2 ha_2) hx hb hml hown hts (cwV 1 hts gX5_readsAll_X5_readsMan rfl rfl rfl hd_X5_readsMan ⟨Nat.le_of_ble_eq_true rfl, Nat.le_of_ble_eq_true rfl⟩) (va_recv hK hP (ci := 5) (q0 := 0) rfl cM_at0) (Ln.id rfl) hA hK hP hD hS rfl hl.1 rfl rfl (Nat.le_of_ble_eq_true rfl) dX5_readsAll_46 (fun H locs hP hD hS => ?_)
    replace hP : va_P D vwCl (cM cI A a_2.2) H := hP
    replace hD : va_D AA (cM cI A a_2.2) := hD
    exact hend (a_2.1, a_2.2) H locs _ _ hf hP hS dX5_readsAll_49
  · replace hf := if_f c_1 hf
    by_cases c_3 : p1 = 115
    · replace hf := if_t c_3 hf
      refine lv_lookup (off := 49) (tgt := 50) hx hb dX5_readsAll_1 (by decide) (by rw [c_3]; decide +kernel) (by decide) ?_
      refine lv_aload_n hx hb dX5_readsAll_50 rfl (lv_at hl 0 rfl) ?_
      refine lv_iload_n hx hb dX5_readsAll_51 rfl (lv_at hl 2 rfl) ?_
      refine lv_iconst (v := 1) hx hb dX5_readsAll_52 (by decide) ?_
      obtain ⟨a_4, ha_4, hf⟩ := bd_e hf
      refine Ct.callV (As := [.int p2, .int (1 : Int32)]) (rest := []) (st1 := [.int a_4.1]) (c_X5_readsDigits l D cI A M p2 (1 : Int32) a_4 ha_4) hx hb hml hown hts (cwV 2 hts gX5_readsAll_X5_readsDigits rfl rfl rfl hd_X5_readsDigits ⟨Nat.le_of_ble_eq_true rfl, Nat.le_of_ble_eq_true rfl⟩) (va_recv hK hP (ci := 5) (q0 := 0) rfl cM_at0) (Ln.id rfl) hA hK hP hD hS rfl hl.1 rfl rfl (Nat.le_of_ble_eq_true rfl) dX5_readsAll_53 (fun H locs hP hD hS => ?_)
      replace hP : va_P D vwCl (cM cI A a_4.2) H := hP
      replace hD : va_D AA (cM cI A a_4.2) := hD
      exact hend (a_4.1, a_4.2) H locs _ _ hf hP hS dX5_readsAll_56
    · replace hf := if_f c_3 hf
      by_cases c_5 : p1 = 116
      · replace hf := if_t c_5 hf
        refine lv_lookup (off := 49) (tgt := 50) hx hb dX5_readsAll_1 (by decide) (by rw [c_5]; decide +kernel) (by decide) ?_
        refine lv_aload_n hx hb dX5_readsAll_50 rfl (lv_at hl 0 rfl) ?_
        refine lv_iload_n hx hb dX5_readsAll_51 rfl (lv_at hl 2 rfl) ?_
        refine lv_iconst (v := 1) hx hb dX5_readsAll_52 (by decide) ?_
        obtain ⟨a_6, ha_6, hf⟩ := bd_e hf
        refine Ct.callV (As := [.int p2, .int (1 : Int32)]) (rest := []) (st1 := [.int a_6.1]) (c_X5_readsDigits l D cI A M p2 (1 : Int32) a_6 ha_6) hx hb hml hown hts (cwV 2 hts gX5_readsAll_X5_readsDigits rfl rfl rfl hd_X5_readsDigits ⟨Nat.le_of_ble_eq_true rfl, Nat.le_of_ble_eq_true rfl⟩) (va_recv hK hP (ci := 5) (q0 := 0) rfl cM_at0) (Ln.id rfl) hA hK hP hD hS rfl hl.1 rfl rfl (Nat.le_of_ble_eq_true rfl) dX5_readsAll_53 (fun H locs hP hD hS => ?_)
        replace hP : va_P D vwCl (cM cI A a_6.2) H := hP
        replace hD : va_D AA (cM cI A a_6.2) := hD
        exact hend (a_6.1, a_6.2) H locs _ _ hf hP hS dX5_readsAll_56
      · replace hf := if_f c_5 hf
        by_cases c_7 : p1 = 119
        · replace hf := if_t c_7 hf
          refine lv_lookup (off := 56) (tgt := 57) hx hb dX5_readsAll_1 (by decide) (by rw [c_7]; decide +kernel) (by decide) ?_
          refine lv_aload_n hx hb dX5_readsAll_57 rfl (lv_at hl 0 rfl) ?_
          refine lv_iload_n hx hb dX5_readsAll_58 rfl (lv_at hl 2 rfl) ?_
          refine lv_iconst (v := 2) hx hb dX5_readsAll_59 (by decide) ?_
          obtain ⟨a_8, ha_8, hf⟩ := bd_e hf
          refine Ct.callV (As := [.int p2, .int (2 : Int32)]) (rest := []) (st1 := [.int a_8.1]) (c_X5_readsDigits l D cI A M p2 (2 : Int32) a_8 ha_8) hx hb hml hown hts (cwV 2 hts gX5_readsAll_X5_readsDigits rfl rfl rfl hd_X5_readsDigits ⟨Nat.le_of_ble_eq_true rfl, Nat.le_of_ble_eq_true rfl⟩) (va_recv hK hP (ci := 5) (q0 := 0) rfl cM_at0) (Ln.id rfl) hA hK hP hD hS rfl hl.1 rfl rfl (Nat.le_of_ble_eq_true rfl) dX5_readsAll_60 (fun H locs hP hD hS => ?_)
          replace hP : va_P D vwCl (cM cI A a_8.2) H := hP
          replace hD : va_D AA (cM cI A a_8.2) := hD
          exact hend (a_8.1, a_8.2) H locs _ _ hf hP hS dX5_readsAll_63
        · replace hf := if_f c_7 hf
          refine lv_lookup (off := 63) (tgt := 64) hx hb dX5_readsAll_1 (by decide) (by show Op.lookupswitch.offset [(109, 43), (115, 49), (116, 49), (119, 56)] 63 _ = _; rw [lv_osw c_1 (by decide +kernel), lv_osw c_3 (by decide +kernel), lv_osw c_5 (by decide +kernel), lv_osw c_7 (by decide +kernel)]; rfl) (by decide) ?_
          refine lv_aload_n hx hb dX5_readsAll_64 rfl (lv_at hl 0 rfl) ?_
          refine lv_iload_n hx hb dX5_readsAll_65 rfl (lv_at hl 2 rfl) ?_
          refine lv_iconst (v := 1) hx hb dX5_readsAll_66 (by decide) ?_
          obtain ⟨a_9, ha_9, hf⟩ := bd_e hf
          refine Ct.callV (As := [.int p2, .int (1 : Int32)]) (rest := []) (st1 := [.int a_9.1]) (c_X5_readsDigits l D cI A M p2 (1 : Int32) a_9 ha_9) hx hb hml hown hts (cwV 2 hts gX5_readsAll_X5_readsDigits rfl rfl rfl hd_X5_readsDigits ⟨Nat.le_of_ble_eq_true rfl, Nat.le_of_ble_eq_true rfl⟩) (va_recv hK hP (ci := 5) (q0 := 0) rfl cM_at0) (Ln.id rfl) hA hK hP hD hS rfl hl.1 rfl rfl (Nat.le_of_ble_eq_true rfl) dX5_readsAll_67 (fun H locs hP hD hS => ?_)
          replace hP : va_P D vwCl (cM cI A a_9.2) H := hP
          replace hD : va_D AA (cM cI A a_9.2) := hD
          refine lv_if_eq (tgt := 88) hx hb dX5_readsAll_70 (by decide) (fun c_10 => ?_) (fun c_10 => ?_)
          · replace hf := if_t c_10 hf
            refine lv_iconst (v := 0) hx hb dX5_readsAll_88 (by decide) ?_
            exact hend ((0 : Int32), a_9.2) H locs _ _ hf hP hS dX5_readsAll_89
          · replace hf := if_f c_10 hf
            refine lv_aload_n hx hb dX5_readsAll_73 rfl (lv_at hl 0 rfl) ?_
            refine lv_iload_n hx hb dX5_readsAll_74 rfl (lv_at hl 2 rfl) ?_
            refine lv_iconst (v := 1) hx hb dX5_readsAll_75 (by decide) ?_
            refine lv_iadd hx hb dX5_readsAll_76 ?_
            refine lv_iconst (v := 1) hx hb dX5_readsAll_77 (by decide) ?_
            obtain ⟨a_11, ha_11, hf⟩ := bd_e hf
            refine Ct.callV (As := [.int (p2 + (1 : Int32)), .int (1 : Int32)]) (rest := []) (st1 := [.int a_11.1]) (c_X5_readsDigits l D cI A a_9.2 (p2 + (1 : Int32)) (1 : Int32) a_11 ha_11) hx hb hml hown hts (cwV 2 hts gX5_readsAll_X5_readsDigits rfl rfl rfl hd_X5_readsDigits ⟨Nat.le_of_ble_eq_true rfl, Nat.le_of_ble_eq_true rfl⟩) (va_recv hK hP (ci := 5) (q0 := 0) rfl cM_at0) (Ln.id rfl) hA hK hP hD hS rfl hl.1 rfl rfl (Nat.le_of_ble_eq_true rfl) dX5_readsAll_78 (fun H locs hP hD hS => ?_)
            replace hP : va_P D vwCl (cM cI A a_11.2) H := hP
            replace hD : va_D AA (cM cI A a_11.2) := hD
            refine lv_if_eq (tgt := 88) hx hb dX5_readsAll_81 (by decide) (fun c_12 => ?_) (fun c_12 => ?_)
            · replace hf := if_t c_12 hf
              refine lv_iconst (v := 0) hx hb dX5_readsAll_88 (by decide) ?_
              exact hend ((0 : Int32), a_11.2) H locs _ _ hf hP hS dX5_readsAll_89
            · replace hf := if_f c_12 hf
              refine lv_iconst (v := 1) hx hb dX5_readsAll_84 (by decide) ?_
              refine lv_goto (tgt := 89) hx hb dX5_readsAll_85 (by decide) ?_
              exact hend ((1 : Int32), a_11.2) H locs _ _ hf hP hS dX5_readsAll_89

def f_X5_statement (M : St) : Option (Int32 × St) := fzp (bd (f_X5_next M) fun a_1 => (if a_1 = (115 : Int32) then (gi (M 16 6) 48 (nm (su M 9 ((M 16 6)).toNatClampNeg a_1) fun h_4 => (gi (h_4 16 6) 48 (nm (su h_4 10 ((h_4 16 6)).toNatClampNeg (h_4 16 5)) fun h_6 => (nm (su h_6 16 5 ((h_6 16 5) + (1 : Int32))) fun h_7 => (bd (f_X5_readsAll h_7 a_1 ((4 : Int32) * (h_7 16 6))) fun a_8 => (if a_8.1 = 0 then (some ((0 : Int32), a_8.2)) else (bd (f_X5_next a_8.2) fun a_10 => (if a_10 = (59 : Int32) then (nm (su a_8.2 16 5 ((a_8.2 16 5) + (1 : Int32))) fun h_12 => (some ((1 : Int32), h_12))) else (some ((0 : Int32), a_8.2))))))))))) else (if a_1 = (109 : Int32) then (gi (M 16 6) 48 (nm (su M 9 ((M 16 6)).toNatClampNeg a_1) fun h_15 => (gi (h_15 16 6) 48 (nm (su h_15 10 ((h_15 16 6)).toNatClampNeg (h_15 16 5)) fun h_17 => (nm (su h_17 16 5 ((h_17 16 5) + (1 : Int32))) fun h_18 => (bd (f_X5_readsAll h_18 a_1 ((4 : Int32) * (h_18 16 6))) fun a_19 => (if a_19.1 = 0 then (some ((0 : Int32), a_19.2)) else (bd (f_X5_next a_19.2) fun a_21 => (if a_21 = (59 : Int32) then (nm (su a_19.2 16 5 ((a_19.2 16 5) + (1 : Int32))) fun h_23 => (some ((1 : Int32), h_23))) else (some ((0 : Int32), a_19.2))))))))))) else (if a_1 = (116 : Int32) then (gi (M 16 6) 48 (nm (su M 9 ((M 16 6)).toNatClampNeg a_1) fun h_26 => (gi (h_26 16 6) 48 (nm (su h_26 10 ((h_26 16 6)).toNatClampNeg (h_26 16 5)) fun h_28 => (nm (su h_28 16 5 ((h_28 16 5) + (1 : Int32))) fun h_29 => (bd (f_X5_readsAll h_29 a_1 ((4 : Int32) * (h_29 16 6))) fun a_30 => (if a_30.1 = 0 then (some ((0 : Int32), a_30.2)) else (bd (f_X5_next a_30.2) fun a_32 => (if a_32 = (59 : Int32) then (nm (su a_30.2 16 5 ((a_30.2 16 5) + (1 : Int32))) fun h_34 => (some ((1 : Int32), h_34))) else (some ((0 : Int32), a_30.2))))))))))) else (if a_1 = (98 : Int32) then (gi (M 16 6) 48 (nm (su M 9 ((M 16 6)).toNatClampNeg a_1) fun h_37 => (gi (h_37 16 6) 48 (nm (su h_37 10 ((h_37 16 6)).toNatClampNeg (h_37 16 5)) fun h_39 => (nm (su h_39 16 5 ((h_39 16 5) + (1 : Int32))) fun h_40 => (bd (f_X5_readsAll h_40 a_1 ((4 : Int32) * (h_40 16 6))) fun a_41 => (if a_41.1 = 0 then (some ((0 : Int32), a_41.2)) else (bd (f_X5_next a_41.2) fun a_43 => (if a_43 = (59 : Int32) then (nm (su a_41.2 16 5 ((a_41.2 16 5) + (1 : Int32))) fun h_45 => (some ((1 : Int32), h_45))) else (some ((0 : Int32), a_41.2))))))))))) else (if a_1 = (118 : Int32) then (gi (M 16 6) 48 (nm (su M 9 ((M 16 6)).toNatClampNeg a_1) fun h_48 => (gi (h_48 16 6) 48 (nm (su h_48 10 ((h_48 16 6)).toNatClampNeg (h_48 16 5)) fun h_50 => (nm (su h_50 16 5 ((h_50 16 5) + (1 : Int32))) fun h_51 => (bd (f_X5_readsAll h_51 a_1 ((4 : Int32) * (h_51 16 6))) fun a_52 => (if a_52.1 = 0 then (some ((0 : Int32), a_52.2)) else (bd (f_X5_next a_52.2) fun a_54 => (if a_54 = (59 : Int32) then (nm (su a_52.2 16 5 ((a_52.2 16 5) + (1 : Int32))) fun h_56 => (some ((1 : Int32), h_56))) else (some ((0 : Int32), a_52.2))))))))))) else (if a_1 = (119 : Int32) then (gi (M 16 6) 48 (nm (su M 9 ((M 16 6)).toNatClampNeg a_1) fun h_59 => (gi (h_59 16 6) 48 (nm (su h_59 10 ((h_59 16 6)).toNatClampNeg (h_59 16 5)) fun h_61 => (nm (su h_61 16 5 ((h_61 16 5) + (1 : Int32))) fun h_62 => (bd (f_X5_readsAll h_62 a_1 ((4 : Int32) * (h_62 16 6))) fun a_63 => (if a_63.1 = 0 then (some ((0 : Int32), a_63.2)) else (bd (f_X5_next a_63.2) fun a_65 => (if a_65 = (59 : Int32) then (nm (su a_63.2 16 5 ((a_63.2 16 5) + (1 : Int32))) fun h_67 => (some ((1 : Int32), h_67))) else (some ((0 : Int32), a_63.2))))))))))) else (some ((0 : Int32), M)))))))))
def rm_X5_statement : Room := { frames := 4, cells := 0, slots := 0, locals := 89 }
theorem hd_X5_statement : yX5_statement.cls = RX5 ∧ yX5_statement.cls ≠ "java/lang/invoke/MethodHandle" ∧ yX5_statement.cls ≠ "java/lang/invoke/VarHandle" ∧ (parseMethodDescriptor yX5_statement.desc).map (fun d => d.parameters.length) = some 0 := by decide +kernel
set_option maxRecDepth 100000 in
set_option maxHeartbeats 4000000 in
theorem c_X5_statement (l : Launch) (D : va_G) (cI : ClassId) (A : Nat → Nat) (M : St) (r : Int32 × St) (hf : f_X5_statement M = some r) : Ct l yX5_statement wsX5_statement rm_X5_statement D cI (cM cI A M) (cM cI A r.2) [.ref (A 0)] (some (.int r.1)) := by
  unfold f_X5_statement at hf
  obtain ⟨hz, hf⟩ := fzp_e hf
  refine Ct.ofZ hz (cc := cX5_statement) (maxL := 2) (by decide +kernel) rfl (Nat.le_of_ble_eq_true rfl) ?_
  intro p e s m args below meth c AA Q H locs ls hx hb hml hown hts hA hK hP hD hS hl hend0
  have hend : ∀ (r1 : Int32 × St) (H : Heap) (locs : List Loc) (pc : Nat) (ls : Array Slot), some r1 = some r → va_P D vwCl (cM cI A r1.2) H → va_S AA s.heap H locs → decode cX5_statement pc = .ok (.ireturn, 1) → W p l e rm_X5_statement s m args below meth c H locs 0 0 Q (F0 m pc ls [.int r1.1]) := by
    intro r1 H locs pc ls e1 hP hS hd; cases e1; exact hend0 H locs pc ls hP hS hd
  clear hend0
  have hw5 : ∀ w ∈ wsX50, w ∈ wsX5_statement := by decide +kernel
  have k37 := hts (.fieldLink RX5 37 "AnchorsForConfessionModel" "letter" "[I") (by decide +kernel)
  have k40 := hts (.fieldLink RX5 40 "AnchorsForConfessionModel" "letterAt" "[I") (by decide +kernel)
  have k79 := hts (.fieldLink RX5 79 "AnchorsForConfessionModel" "at" "I") (by decide +kernel)
  have k101 := hts (.fieldLink RX5 101 "AnchorsForConfessionModel" "statements" "I") (by decide +kernel)
  replace hl : lv_has ls 2 [(0, .ref (A 0))] := hl
  refine lv_aload_n hx hb dX5_statement_0 rfl (lv_at hl 0 rfl) ?_
  obtain ⟨a_1, ha_1, hf⟩ := bd_e hf
  refine Ct.callV (As := []) (rest := []) (st1 := [.int a_1]) (c_X5_next l D cI A M a_1 ha_1) hx hb hml hown hts (cwV 0 hts gX5_statement_X5_next rfl rfl rfl hd_X5_next ⟨Nat.le_of_ble_eq_true rfl, Nat.le_of_ble_eq_true rfl⟩) (va_recv hK hP (ci := 5) (q0 := 0) rfl cM_at0) (Ln.id rfl) hA hK hP hD hS rfl hl.1 rfl rfl (Nat.le_of_ble_eq_true rfl) dX5_statement_1 (fun H locs hP hD hS => ?_)
  refine lv_istore_n (lv' := [(1, .int a_1), (0, .ref (A 0))]) hx hb dX5_statement_4 rfl hl (by decide) rfl (fun ls hl => ?_)
  refine lv_iload_n hx hb dX5_statement_5 rfl (lv_at hl 0 rfl) ?_
  refine lv_bipush (v := 115) hx hb dX5_statement_6 (by decide +kernel) ?_
  refine lv_icmp_eq (tgt := 43) hx hb dX5_statement_8 (by decide) (fun c_2 => ?_) (fun c_2 => ?_)
  · replace hf := if_t c_2 hf
    refine lv_aload_n hx hb dX5_statement_43 rfl (lv_at hl 1 rfl) ?_
    refine va_get (D := D) (ci := 5) (v := .ref (A 10)) (C := RX5) (T := TX5) (N := 27) hx hb hts hw5 hown hK hP 0 cM_at0 rfl 13 (by decide) k37 (fun _ h9 => h9) rfl dX5_statement_44 ?_
    refine lv_aload_n hx hb dX5_statement_47 rfl (lv_at hl 1 rfl) ?_
    refine va_get (D := D) (ci := 5) (v := .int (M 16 6)) (C := RX5) (T := TX5) (N := 27) hx hb hts hw5 hown hK hP 0 cM_at0 rfl 18 (by decide) k101 (fun _ h9 => h9) rfl dX5_statement_48 ?_
    refine lv_iload_n hx hb dX5_statement_51 rfl (lv_at hl 0 rfl) ?_
    obtain ⟨c_3, hf⟩ := gi_e hf
    refine va_iast hx hb hK hP hD hS 10 0 cM_at10 rfl c_3 dX5_statement_52 (fun H locs hP hD hS => ?_)
    obtain ⟨h_4, eh_4, hf⟩ := nm_e hf
    rw [cM_su10, ← eh_4] at hP hD
    refine lv_aload_n hx hb dX5_statement_53 rfl (lv_at hl 1 rfl) ?_
    refine va_get (D := D) (ci := 5) (v := .ref (A 11)) (C := RX5) (T := TX5) (N := 27) hx hb hts hw5 hown hK hP 0 cM_at0 rfl 14 (by decide) k40 (fun _ h9 => h9) rfl dX5_statement_54 ?_
    refine lv_aload_n hx hb dX5_statement_57 rfl (lv_at hl 1 rfl) ?_
    refine va_get (D := D) (ci := 5) (v := .int (h_4 16 6)) (C := RX5) (T := TX5) (N := 27) hx hb hts hw5 hown hK hP 0 cM_at0 rfl 18 (by decide) k101 (fun _ h9 => h9) rfl dX5_statement_58 ?_
    refine lv_aload_n hx hb dX5_statement_61 rfl (lv_at hl 1 rfl) ?_
    refine va_get (D := D) (ci := 5) (v := .int (h_4 16 5)) (C := RX5) (T := TX5) (N := 27) hx hb hts hw5 hown hK hP 0 cM_at0 rfl 17 (by decide) k79 (fun _ h9 => h9) rfl dX5_statement_62 ?_
    obtain ⟨c_5, hf⟩ := gi_e hf
    refine va_iast hx hb hK hP hD hS 11 0 cM_at11 rfl c_5 dX5_statement_65 (fun H locs hP hD hS => ?_)
    obtain ⟨h_6, eh_6, hf⟩ := nm_e hf
    rw [cM_su11, ← eh_6] at hP hD
    refine lv_aload_n hx hb dX5_statement_66 rfl (lv_at hl 1 rfl) ?_
    refine lv_dup hx hb dX5_statement_67 rfl ?_
    refine va_get (D := D) (ci := 5) (v := .int (h_6 16 5)) (C := RX5) (T := TX5) (N := 27) hx hb hts hw5 hown hK hP 0 cM_at0 rfl 17 (by decide) k79 (fun _ h9 => h9) rfl dX5_statement_68 ?_
    refine lv_iconst (v := 1) hx hb dX5_statement_71 (by decide) ?_
    refine lv_iadd hx hb dX5_statement_72 ?_
    refine va_put (D := D) (ci := 5) (v := .int ((h_6 16 5) + (1 : Int32))) (ty := .int) (C := RX5) (T := TX5) (N := 27) hx hb hts hw5 tyX5 tyX5_ok nmX5 hown hK hP hD hS 0 cM_at0 rfl 17 (by decide) k79 (fun _ h9 => h9) rfl (tyX5_ok 17 (by decide)) rfl rfl (Nat.le_of_ble_eq_true rfl) dX5_statement_73 (fun H locs hP hD hS => ?_)
    obtain ⟨h_7, eh_7, hf⟩ := nm_e hf
    rw [cM_sc0_17, ← eh_7] at hP hD
    refine lv_aload_n hx hb dX5_statement_76 rfl (lv_at hl 1 rfl) ?_
    refine lv_iload_n hx hb dX5_statement_77 rfl (lv_at hl 0 rfl) ?_
    refine lv_iconst (v := 4) hx hb dX5_statement_78 (by decide) ?_
    refine lv_aload_n hx hb dX5_statement_79 rfl (lv_at hl 1 rfl) ?_
    refine va_get (D := D) (ci := 5) (v := .int (h_7 16 6)) (C := RX5) (T := TX5) (N := 27) hx hb hts hw5 hown hK hP 0 cM_at0 rfl 18 (by decide) k101 (fun _ h9 => h9) rfl dX5_statement_80 ?_
    refine lv_imul hx hb dX5_statement_83 ?_
    obtain ⟨a_8, ha_8, hf⟩ := bd_e hf
    refine Ct.callV (As := [.int a_1, .int ((4 : Int32) * (h_7 16 6))]) (rest := []) (st1 := [.int a_8.1]) (c_X5_readsAll l D cI A h_7 a_1 ((4 : Int32) * (h_7 16 6)) a_8 ha_8) hx hb hml hown hts (cwV 2 hts gX5_statement_X5_readsAll rfl rfl rfl hd_X5_readsAll ⟨Nat.le_of_ble_eq_true rfl, Nat.le_of_ble_eq_true rfl⟩) (va_recv hK hP (ci := 5) (q0 := 0) rfl cM_at0) (Ln.id rfl) hA hK hP hD hS rfl hl.1 rfl rfl (Nat.le_of_ble_eq_true rfl) dX5_statement_84 (fun H locs hP hD hS => ?_)
    replace hP : va_P D vwCl (cM cI A a_8.2) H := hP
    replace hD : va_D AA (cM cI A a_8.2) := hD
    refine lv_if_eq (tgt := 99) hx hb dX5_statement_87 (by decide) (fun c_9 => ?_) (fun c_9 => ?_)
    · replace hf := if_t c_9 hf
      refine lv_iconst (v := 0) hx hb dX5_statement_99 (by decide) ?_
      exact hend ((0 : Int32), a_8.2) H locs _ _ hf hP hS dX5_statement_100
    · replace hf := if_f c_9 hf
      refine lv_aload_n hx hb dX5_statement_90 rfl (lv_at hl 1 rfl) ?_
      obtain ⟨a_10, ha_10, hf⟩ := bd_e hf
      refine Ct.callV (As := []) (rest := []) (st1 := [.int a_10]) (c_X5_next l D cI A a_8.2 a_10 ha_10) hx hb hml hown hts (cwV 0 hts gX5_statement_X5_next rfl rfl rfl hd_X5_next ⟨Nat.le_of_ble_eq_true rfl, Nat.le_of_ble_eq_true rfl⟩) (va_recv hK hP (ci := 5) (q0 := 0) rfl cM_at0) (Ln.id rfl) hA hK hP hD hS rfl hl.1 rfl rfl (Nat.le_of_ble_eq_true rfl) dX5_statement_91 (fun H locs hP hD hS => ?_)
      refine lv_bipush (v := 59) hx hb dX5_statement_94 (by decide +kernel) ?_
      refine lv_icmp_eq (tgt := 101) hx hb dX5_statement_96 (by decide) (fun c_11 => ?_) (fun c_11 => ?_)
      · replace hf := if_t c_11 hf
        refine lv_aload_n hx hb dX5_statement_101 rfl (lv_at hl 1 rfl) ?_
        refine lv_dup hx hb dX5_statement_102 rfl ?_
        refine va_get (D := D) (ci := 5) (v := .int (a_8.2 16 5)) (C := RX5) (T := TX5) (N := 27) hx hb hts hw5 hown hK hP 0 cM_at0 rfl 17 (by decide) k79 (fun _ h9 => h9) rfl dX5_statement_103 ?_
        refine lv_iconst (v := 1) hx hb dX5_statement_106 (by decide) ?_
        refine lv_iadd hx hb dX5_statement_107 ?_
        refine va_put (D := D) (ci := 5) (v := .int ((a_8.2 16 5) + (1 : Int32))) (ty := .int) (C := RX5) (T := TX5) (N := 27) hx hb hts hw5 tyX5 tyX5_ok nmX5 hown hK hP hD hS 0 cM_at0 rfl 17 (by decide) k79 (fun _ h9 => h9) rfl (tyX5_ok 17 (by decide)) rfl rfl (Nat.le_of_ble_eq_true rfl) dX5_statement_108 (fun H locs hP hD hS => ?_)
        obtain ⟨h_12, eh_12, hf⟩ := nm_e hf
        rw [cM_sc0_17, ← eh_12] at hP hD
        refine lv_iconst (v := 1) hx hb dX5_statement_111 (by decide) ?_
        exact hend ((1 : Int32), h_12) H locs _ _ hf hP hS dX5_statement_112
      · replace hf := if_f c_11 hf
        refine lv_iconst (v := 0) hx hb dX5_statement_99 (by decide) ?_
        exact hend ((0 : Int32), a_8.2) H locs _ _ hf hP hS dX5_statement_100
  · replace hf := if_f c_2 hf
    refine lv_iload_n hx hb dX5_statement_11 rfl (lv_at hl 0 rfl) ?_
    refine lv_bipush (v := 109) hx hb dX5_statement_12 (by decide +kernel) ?_
    refine lv_icmp_eq (tgt := 43) hx hb dX5_statement_14 (by decide) (fun c_13 => ?_) (fun c_13 => ?_)
    · replace hf := if_t c_13 hf
      refine lv_aload_n hx hb dX5_statement_43 rfl (lv_at hl 1 rfl) ?_
      refine va_get (D := D) (ci := 5) (v := .ref (A 10)) (C := RX5) (T := TX5) (N := 27) hx hb hts hw5 hown hK hP 0 cM_at0 rfl 13 (by decide) k37 (fun _ h9 => h9) rfl dX5_statement_44 ?_
      refine lv_aload_n hx hb dX5_statement_47 rfl (lv_at hl 1 rfl) ?_
      refine va_get (D := D) (ci := 5) (v := .int (M 16 6)) (C := RX5) (T := TX5) (N := 27) hx hb hts hw5 hown hK hP 0 cM_at0 rfl 18 (by decide) k101 (fun _ h9 => h9) rfl dX5_statement_48 ?_
      refine lv_iload_n hx hb dX5_statement_51 rfl (lv_at hl 0 rfl) ?_
      obtain ⟨c_14, hf⟩ := gi_e hf
      refine va_iast hx hb hK hP hD hS 10 0 cM_at10 rfl c_14 dX5_statement_52 (fun H locs hP hD hS => ?_)
      obtain ⟨h_15, eh_15, hf⟩ := nm_e hf
      rw [cM_su10, ← eh_15] at hP hD
      refine lv_aload_n hx hb dX5_statement_53 rfl (lv_at hl 1 rfl) ?_
      refine va_get (D := D) (ci := 5) (v := .ref (A 11)) (C := RX5) (T := TX5) (N := 27) hx hb hts hw5 hown hK hP 0 cM_at0 rfl 14 (by decide) k40 (fun _ h9 => h9) rfl dX5_statement_54 ?_
      refine lv_aload_n hx hb dX5_statement_57 rfl (lv_at hl 1 rfl) ?_
      refine va_get (D := D) (ci := 5) (v := .int (h_15 16 6)) (C := RX5) (T := TX5) (N := 27) hx hb hts hw5 hown hK hP 0 cM_at0 rfl 18 (by decide) k101 (fun _ h9 => h9) rfl dX5_statement_58 ?_
      refine lv_aload_n hx hb dX5_statement_61 rfl (lv_at hl 1 rfl) ?_
      refine va_get (D := D) (ci := 5) (v := .int (h_15 16 5)) (C := RX5) (T := TX5) (N := 27) hx hb hts hw5 hown hK hP 0 cM_at0 rfl 17 (by decide) k79 (fun _ h9 => h9) rfl dX5_statement_62 ?_
      obtain ⟨c_16, hf⟩ := gi_e hf
      refine va_iast hx hb hK hP hD hS 11 0 cM_at11 rfl c_16 dX5_statement_65 (fun H locs hP hD hS => ?_)
      obtain ⟨h_17, eh_17, hf⟩ := nm_e hf
      rw [cM_su11, ← eh_17] at hP hD
      refine lv_aload_n hx hb dX5_statement_66 rfl (lv_at hl 1 rfl) ?_
      refine lv_dup hx hb dX5_statement_67 rfl ?_
      refine va_get (D := D) (ci := 5) (v := .int (h_17 16 5)) (C := RX5) (T := TX5) (N := 27) hx hb hts hw5 hown hK hP 0 cM_at0 rfl 17 (by decide) k79 (fun _ h9 => h9) rfl dX5_statement_68 ?_
      refine lv_iconst (v := 1) hx hb dX5_statement_71 (by decide) ?_
      refine lv_iadd hx hb dX5_statement_72 ?_
      refine va_put (D := D) (ci := 5) (v := .int ((h_17 16 5) + (1 : Int32))) (ty := .int) (C := RX5) (T := TX5) (N := 27) hx hb hts hw5 tyX5 tyX5_ok nmX5 hown hK hP hD hS 0 cM_at0 rfl 17 (by decide) k79 (fun _ h9 => h9) rfl (tyX5_ok 17 (by decide)) rfl rfl (Nat.le_of_ble_eq_true rfl) dX5_statement_73 (fun H locs hP hD hS => ?_)
      obtain ⟨h_18, eh_18, hf⟩ := nm_e hf
      rw [cM_sc0_17, ← eh_18] at hP hD
      refine lv_aload_n hx hb dX5_statement_76 rfl (lv_at hl 1 rfl) ?_
      refine lv_iload_n hx hb dX5_statement_77 rfl (lv_at hl 0 rfl) ?_
      refine lv_iconst (v := 4) hx hb dX5_statement_78 (by decide) ?_
      refine lv_aload_n hx hb dX5_statement_79 rfl (lv_at hl 1 rfl) ?_
      refine va_get (D := D) (ci := 5) (v := .int (h_18 16 6)) (C := RX5) (T := TX5) (N := 27) hx hb hts hw5 hown hK hP 0 cM_at0 rfl 18 (by decide) k101 (fun _ h9 => h9) rfl dX5_statement_80 ?_
      refine lv_imul hx hb dX5_statement_83 ?_
      obtain ⟨a_19, ha_19, hf⟩ := bd_e hf
      refine Ct.callV (As := [.int a_1, .int ((4 : Int32) * (h_18 16 6))]) (rest := []) (st1 := [.int a_19.1]) (c_X5_readsAll l D cI A h_18 a_1 ((4 : Int32) * (h_18 16 6)) a_19 ha_19) hx hb hml hown hts (cwV 2 hts gX5_statement_X5_readsAll rfl rfl rfl hd_X5_readsAll ⟨Nat.le_of_ble_eq_true rfl, Nat.le_of_ble_eq_true rfl⟩) (va_recv hK hP (ci := 5) (q0 := 0) rfl cM_at0) (Ln.id rfl) hA hK hP hD hS rfl hl.1 rfl rfl (Nat.le_of_ble_eq_true rfl) dX5_statement_84 (fun H locs hP hD hS => ?_)
      replace hP : va_P D vwCl (cM cI A a_19.2) H := hP
      replace hD : va_D AA (cM cI A a_19.2) := hD
      refine lv_if_eq (tgt := 99) hx hb dX5_statement_87 (by decide) (fun c_20 => ?_) (fun c_20 => ?_)
      · replace hf := if_t c_20 hf
        refine lv_iconst (v := 0) hx hb dX5_statement_99 (by decide) ?_
        exact hend ((0 : Int32), a_19.2) H locs _ _ hf hP hS dX5_statement_100
      · replace hf := if_f c_20 hf
        refine lv_aload_n hx hb dX5_statement_90 rfl (lv_at hl 1 rfl) ?_
        obtain ⟨a_21, ha_21, hf⟩ := bd_e hf
        refine Ct.callV (As := []) (rest := []) (st1 := [.int a_21]) (c_X5_next l D cI A a_19.2 a_21 ha_21) hx hb hml hown hts (cwV 0 hts gX5_statement_X5_next rfl rfl rfl hd_X5_next ⟨Nat.le_of_ble_eq_true rfl, Nat.le_of_ble_eq_true rfl⟩) (va_recv hK hP (ci := 5) (q0 := 0) rfl cM_at0) (Ln.id rfl) hA hK hP hD hS rfl hl.1 rfl rfl (Nat.le_of_ble_eq_true rfl) dX5_statement_91 (fun H locs hP hD hS => ?_)
        refine lv_bipush (v := 59) hx hb dX5_statement_94 (by decide +kernel) ?_
        refine lv_icmp_eq (tgt := 101) hx hb dX5_statement_96 (by decide) (fun c_22 => ?_) (fun c_22 => ?_)
        · replace hf := if_t c_22 hf
          refine lv_aload_n hx hb dX5_statement_101 rfl (lv_at hl 1 rfl) ?_
          refine lv_dup hx hb dX5_statement_102 rfl ?_
          refine va_get (D := D) (ci := 5) (v := .int (a_19.2 16 5)) (C := RX5) (T := TX5) (N := 27) hx hb hts hw5 hown hK hP 0 cM_at0 rfl 17 (by decide) k79 (fun _ h9 => h9) rfl dX5_statement_103 ?_
          refine lv_iconst (v := 1) hx hb dX5_statement_106 (by decide) ?_
          refine lv_iadd hx hb dX5_statement_107 ?_
          refine va_put (D := D) (ci := 5) (v := .int ((a_19.2 16 5) + (1 : Int32))) (ty := .int) (C := RX5) (T := TX5) (N := 27) hx hb hts hw5 tyX5 tyX5_ok nmX5 hown hK hP hD hS 0 cM_at0 rfl 17 (by decide) k79 (fun _ h9 => h9) rfl (tyX5_ok 17 (by decide)) rfl rfl (Nat.le_of_ble_eq_true rfl) dX5_statement_108 (fun H locs hP hD hS => ?_)
          obtain ⟨h_23, eh_23, hf⟩ := nm_e hf
          rw [cM_sc0_17, ← eh_23] at hP hD
          refine lv_iconst (v := 1) hx hb dX5_statement_111 (by decide) ?_
          exact hend ((1 : Int32), h_23) H locs _ _ hf hP hS dX5_statement_112
        · replace hf := if_f c_22 hf
          refine lv_iconst (v := 0) hx hb dX5_statement_99 (by decide) ?_
          exact hend ((0 : Int32), a_19.2) H locs _ _ hf hP hS dX5_statement_100
    · replace hf := if_f c_13 hf
      refine lv_iload_n hx hb dX5_statement_17 rfl (lv_at hl 0 rfl) ?_
      refine lv_bipush (v := 116) hx hb dX5_statement_18 (by decide +kernel) ?_
      refine lv_icmp_eq (tgt := 43) hx hb dX5_statement_20 (by decide) (fun c_24 => ?_) (fun c_24 => ?_)
      · replace hf := if_t c_24 hf
        refine lv_aload_n hx hb dX5_statement_43 rfl (lv_at hl 1 rfl) ?_
        refine va_get (D := D) (ci := 5) (v := .ref (A 10)) (C := RX5) (T := TX5) (N := 27) hx hb hts hw5 hown hK hP 0 cM_at0 rfl 13 (by decide) k37 (fun _ h9 => h9) rfl dX5_statement_44 ?_
        refine lv_aload_n hx hb dX5_statement_47 rfl (lv_at hl 1 rfl) ?_
        refine va_get (D := D) (ci := 5) (v := .int (M 16 6)) (C := RX5) (T := TX5) (N := 27) hx hb hts hw5 hown hK hP 0 cM_at0 rfl 18 (by decide) k101 (fun _ h9 => h9) rfl dX5_statement_48 ?_
        refine lv_iload_n hx hb dX5_statement_51 rfl (lv_at hl 0 rfl) ?_
        obtain ⟨c_25, hf⟩ := gi_e hf
        refine va_iast hx hb hK hP hD hS 10 0 cM_at10 rfl c_25 dX5_statement_52 (fun H locs hP hD hS => ?_)
        obtain ⟨h_26, eh_26, hf⟩ := nm_e hf
        rw [cM_su10, ← eh_26] at hP hD
        refine lv_aload_n hx hb dX5_statement_53 rfl (lv_at hl 1 rfl) ?_
        refine va_get (D := D) (ci := 5) (v := .ref (A 11)) (C := RX5) (T := TX5) (N := 27) hx hb hts hw5 hown hK hP 0 cM_at0 rfl 14 (by decide) k40 (fun _ h9 => h9) rfl dX5_statement_54 ?_
        refine lv_aload_n hx hb dX5_statement_57 rfl (lv_at hl 1 rfl) ?_
        refine va_get (D := D) (ci := 5) (v := .int (h_26 16 6)) (C := RX5) (T := TX5) (N := 27) hx hb hts hw5 hown hK hP 0 cM_at0 rfl 18 (by decide) k101 (fun _ h9 => h9) rfl dX5_statement_58 ?_
        refine lv_aload_n hx hb dX5_statement_61 rfl (lv_at hl 1 rfl) ?_
        refine va_get (D := D) (ci := 5) (v := .int (h_26 16 5)) (C := RX5) (T := TX5) (N := 27) hx hb hts hw5 hown hK hP 0 cM_at0 rfl 17 (by decide) k79 (fun _ h9 => h9) rfl dX5_statement_62 ?_
        obtain ⟨c_27, hf⟩ := gi_e hf
        refine va_iast hx hb hK hP hD hS 11 0 cM_at11 rfl c_27 dX5_statement_65 (fun H locs hP hD hS => ?_)
        obtain ⟨h_28, eh_28, hf⟩ := nm_e hf
        rw [cM_su11, ← eh_28] at hP hD
        refine lv_aload_n hx hb dX5_statement_66 rfl (lv_at hl 1 rfl) ?_
        refine lv_dup hx hb dX5_statement_67 rfl ?_
        refine va_get (D := D) (ci := 5) (v := .int (h_28 16 5)) (C := RX5) (T := TX5) (N := 27) hx hb hts hw5 hown hK hP 0 cM_at0 rfl 17 (by decide) k79 (fun _ h9 => h9) rfl dX5_statement_68 ?_
        refine lv_iconst (v := 1) hx hb dX5_statement_71 (by decide) ?_
        refine lv_iadd hx hb dX5_statement_72 ?_
        refine va_put (D := D) (ci := 5) (v := .int ((h_28 16 5) + (1 : Int32))) (ty := .int) (C := RX5) (T := TX5) (N := 27) hx hb hts hw5 tyX5 tyX5_ok nmX5 hown hK hP hD hS 0 cM_at0 rfl 17 (by decide) k79 (fun _ h9 => h9) rfl (tyX5_ok 17 (by decide)) rfl rfl (Nat.le_of_ble_eq_true rfl) dX5_statement_73 (fun H locs hP hD hS => ?_)
        obtain ⟨h_29, eh_29, hf⟩ := nm_e hf
        rw [cM_sc0_17, ← eh_29] at hP hD
        refine lv_aload_n hx hb dX5_statement_76 rfl (lv_at hl 1 rfl) ?_
        refine lv_iload_n hx hb dX5_statement_77 rfl (lv_at hl 0 rfl) ?_
        refine lv_iconst (v := 4) hx hb dX5_statement_78 (by decide) ?_
        refine lv_aload_n hx hb dX5_statement_79 rfl (lv_at hl 1 rfl) ?_
        refine va_get (D := D) (ci := 5) (v := .int (h_29 16 6)) (C := RX5) (T := TX5) (N := 27) hx hb hts hw5 hown hK hP 0 cM_at0 rfl 18 (by decide) k101 (fun _ h9 => h9) rfl dX5_statement_80 ?_
        refine lv_imul hx hb dX5_statement_83 ?_
        obtain ⟨a_30, ha_30, hf⟩ := bd_e hf
        refine Ct.callV (As := [.int a_1, .int ((4 : Int32) * (h_29 16 6))]) (rest := []) (st1 := [.int a_30.1]) (c_X5_readsAll l D cI A h_29 a_1 ((4 : Int32) * (h_29 16 6)) a_30 ha_30) hx hb hml hown hts (cwV 2 hts gX5_statement_X5_readsAll rfl rfl rfl hd_X5_readsAll ⟨Nat.le_of_ble_eq_true rfl, Nat.le_of_ble_eq_true rfl⟩) (va_recv hK hP (ci := 5) (q0 := 0) rfl cM_at0) (Ln.id rfl) hA hK hP hD hS rfl hl.1 rfl rfl (Nat.le_of_ble_eq_true rfl) dX5_statement_84 (fun H locs hP hD hS => ?_)
        replace hP : va_P D vwCl (cM cI A a_30.2) H := hP
        replace hD : va_D AA (cM cI A a_30.2) := hD
        refine lv_if_eq (tgt := 99) hx hb dX5_statement_87 (by decide) (fun c_31 => ?_) (fun c_31 => ?_)
        · replace hf := if_t c_31 hf
          refine lv_iconst (v := 0) hx hb dX5_statement_99 (by decide) ?_
          exact hend ((0 : Int32), a_30.2) H locs _ _ hf hP hS dX5_statement_100
        · replace hf := if_f c_31 hf
          refine lv_aload_n hx hb dX5_statement_90 rfl (lv_at hl 1 rfl) ?_
          obtain ⟨a_32, ha_32, hf⟩ := bd_e hf
          refine Ct.callV (As := []) (rest := []) (st1 := [.int a_32]) (c_X5_next l D cI A a_30.2 a_32 ha_32) hx hb hml hown hts (cwV 0 hts gX5_statement_X5_next rfl rfl rfl hd_X5_next ⟨Nat.le_of_ble_eq_true rfl, Nat.le_of_ble_eq_true rfl⟩) (va_recv hK hP (ci := 5) (q0 := 0) rfl cM_at0) (Ln.id rfl) hA hK hP hD hS rfl hl.1 rfl rfl (Nat.le_of_ble_eq_true rfl) dX5_statement_91 (fun H locs hP hD hS => ?_)
          refine lv_bipush (v := 59) hx hb dX5_statement_94 (by decide +kernel) ?_
          refine lv_icmp_eq (tgt := 101) hx hb dX5_statement_96 (by decide) (fun c_33 => ?_) (fun c_33 => ?_)
          · replace hf := if_t c_33 hf
            refine lv_aload_n hx hb dX5_statement_101 rfl (lv_at hl 1 rfl) ?_
            refine lv_dup hx hb dX5_statement_102 rfl ?_
            refine va_get (D := D) (ci := 5) (v := .int (a_30.2 16 5)) (C := RX5) (T := TX5) (N := 27) hx hb hts hw5 hown hK hP 0 cM_at0 rfl 17 (by decide) k79 (fun _ h9 => h9) rfl dX5_statement_103 ?_
            refine lv_iconst (v := 1) hx hb dX5_statement_106 (by decide) ?_
            refine lv_iadd hx hb dX5_statement_107 ?_
            refine va_put (D := D) (ci := 5) (v := .int ((a_30.2 16 5) + (1 : Int32))) (ty := .int) (C := RX5) (T := TX5) (N := 27) hx hb hts hw5 tyX5 tyX5_ok nmX5 hown hK hP hD hS 0 cM_at0 rfl 17 (by decide) k79 (fun _ h9 => h9) rfl (tyX5_ok 17 (by decide)) rfl rfl (Nat.le_of_ble_eq_true rfl) dX5_statement_108 (fun H locs hP hD hS => ?_)
            obtain ⟨h_34, eh_34, hf⟩ := nm_e hf
            rw [cM_sc0_17, ← eh_34] at hP hD
            refine lv_iconst (v := 1) hx hb dX5_statement_111 (by decide) ?_
            exact hend ((1 : Int32), h_34) H locs _ _ hf hP hS dX5_statement_112
          · replace hf := if_f c_33 hf
            refine lv_iconst (v := 0) hx hb dX5_statement_99 (by decide) ?_
            exact hend ((0 : Int32), a_30.2) H locs _ _ hf hP hS dX5_statement_100
      · replace hf := if_f c_24 hf
        refine lv_iload_n hx hb dX5_statement_23 rfl (lv_at hl 0 rfl) ?_
        refine lv_bipush (v := 98) hx hb dX5_statement_24 (by decide +kernel) ?_
        refine lv_icmp_eq (tgt := 43) hx hb dX5_statement_26 (by decide) (fun c_35 => ?_) (fun c_35 => ?_)
        · replace hf := if_t c_35 hf
          refine lv_aload_n hx hb dX5_statement_43 rfl (lv_at hl 1 rfl) ?_
          refine va_get (D := D) (ci := 5) (v := .ref (A 10)) (C := RX5) (T := TX5) (N := 27) hx hb hts hw5 hown hK hP 0 cM_at0 rfl 13 (by decide) k37 (fun _ h9 => h9) rfl dX5_statement_44 ?_
          refine lv_aload_n hx hb dX5_statement_47 rfl (lv_at hl 1 rfl) ?_
          refine va_get (D := D) (ci := 5) (v := .int (M 16 6)) (C := RX5) (T := TX5) (N := 27) hx hb hts hw5 hown hK hP 0 cM_at0 rfl 18 (by decide) k101 (fun _ h9 => h9) rfl dX5_statement_48 ?_
          refine lv_iload_n hx hb dX5_statement_51 rfl (lv_at hl 0 rfl) ?_
          obtain ⟨c_36, hf⟩ := gi_e hf
          refine va_iast hx hb hK hP hD hS 10 0 cM_at10 rfl c_36 dX5_statement_52 (fun H locs hP hD hS => ?_)
          obtain ⟨h_37, eh_37, hf⟩ := nm_e hf
          rw [cM_su10, ← eh_37] at hP hD
          refine lv_aload_n hx hb dX5_statement_53 rfl (lv_at hl 1 rfl) ?_
          refine va_get (D := D) (ci := 5) (v := .ref (A 11)) (C := RX5) (T := TX5) (N := 27) hx hb hts hw5 hown hK hP 0 cM_at0 rfl 14 (by decide) k40 (fun _ h9 => h9) rfl dX5_statement_54 ?_
          refine lv_aload_n hx hb dX5_statement_57 rfl (lv_at hl 1 rfl) ?_
          refine va_get (D := D) (ci := 5) (v := .int (h_37 16 6)) (C := RX5) (T := TX5) (N := 27) hx hb hts hw5 hown hK hP 0 cM_at0 rfl 18 (by decide) k101 (fun _ h9 => h9) rfl dX5_statement_58 ?_
          refine lv_aload_n hx hb dX5_statement_61 rfl (lv_at hl 1 rfl) ?_
          refine va_get (D := D) (ci := 5) (v := .int (h_37 16 5)) (C := RX5) (T := TX5) (N := 27) hx hb hts hw5 hown hK hP 0 cM_at0 rfl 17 (by decide) k79 (fun _ h9 => h9) rfl dX5_statement_62 ?_
          obtain ⟨c_38, hf⟩ := gi_e hf
          refine va_iast hx hb hK hP hD hS 11 0 cM_at11 rfl c_38 dX5_statement_65 (fun H locs hP hD hS => ?_)
          obtain ⟨h_39, eh_39, hf⟩ := nm_e hf
          rw [cM_su11, ← eh_39] at hP hD
          refine lv_aload_n hx hb dX5_statement_66 rfl (lv_at hl 1 rfl) ?_
          refine lv_dup hx hb dX5_statement_67 rfl ?_
          refine va_get (D := D) (ci := 5) (v := .int (h_39 16 5)) (C := RX5) (T := TX5) (N := 27) hx hb hts hw5 hown hK hP 0 cM_at0 rfl 17 (by decide) k79 (fun _ h9 => h9) rfl dX5_statement_68 ?_
          refine lv_iconst (v := 1) hx hb dX5_statement_71 (by decide) ?_
          refine lv_iadd hx hb dX5_statement_72 ?_
          refine va_put (D := D) (ci := 5) (v := .int ((h_39 16 5) + (1 : Int32))) (ty := .int) (C := RX5) (T := TX5) (N := 27) hx hb hts hw5 tyX5 tyX5_ok nmX5 hown hK hP hD hS 0 cM_at0 rfl 17 (by decide) k79 (fun _ h9 => h9) rfl (tyX5_ok 17 (by decide)) rfl rfl (Nat.le_of_ble_eq_true rfl) dX5_statement_73 (fun H locs hP hD hS => ?_)
          obtain ⟨h_40, eh_40, hf⟩ := nm_e hf
          rw [cM_sc0_17, ← eh_40] at hP hD
          refine lv_aload_n hx hb dX5_statement_76 rfl (lv_at hl 1 rfl) ?_
          refine lv_iload_n hx hb dX5_statement_77 rfl (lv_at hl 0 rfl) ?_
          refine lv_iconst (v := 4) hx hb dX5_statement_78 (by decide) ?_
          refine lv_aload_n hx hb dX5_statement_79 rfl (lv_at hl 1 rfl) ?_
          refine va_get (D := D) (ci := 5) (v := .int (h_40 16 6)) (C := RX5) (T := TX5) (N := 27) hx hb hts hw5 hown hK hP 0 cM_at0 rfl 18 (by decide) k101 (fun _ h9 => h9) rfl dX5_statement_80 ?_
          refine lv_imul hx hb dX5_statement_83 ?_
          obtain ⟨a_41, ha_41, hf⟩ := bd_e hf
          refine Ct.callV (As := [.int a_1, .int ((4 : Int32) * (h_40 16 6))]) (rest := []) (st1 := [.int a_41.1]) (c_X5_readsAll l D cI A h_40 a_1 ((4 : Int32) * (h_40 16 6)) a_41 ha_41) hx hb hml hown hts (cwV 2 hts gX5_statement_X5_readsAll rfl rfl rfl hd_X5_readsAll ⟨Nat.le_of_ble_eq_true rfl, Nat.le_of_ble_eq_true rfl⟩) (va_recv hK hP (ci := 5) (q0 := 0) rfl cM_at0) (Ln.id rfl) hA hK hP hD hS rfl hl.1 rfl rfl (Nat.le_of_ble_eq_true rfl) dX5_statement_84 (fun H locs hP hD hS => ?_)
          replace hP : va_P D vwCl (cM cI A a_41.2) H := hP
          replace hD : va_D AA (cM cI A a_41.2) := hD
          refine lv_if_eq (tgt := 99) hx hb dX5_statement_87 (by decide) (fun c_42 => ?_) (fun c_42 => ?_)
          · replace hf := if_t c_42 hf
            refine lv_iconst (v := 0) hx hb dX5_statement_99 (by decide) ?_
            exact hend ((0 : Int32), a_41.2) H locs _ _ hf hP hS dX5_statement_100
          · replace hf := if_f c_42 hf
            refine lv_aload_n hx hb dX5_statement_90 rfl (lv_at hl 1 rfl) ?_
            obtain ⟨a_43, ha_43, hf⟩ := bd_e hf
            refine Ct.callV (As := []) (rest := []) (st1 := [.int a_43]) (c_X5_next l D cI A a_41.2 a_43 ha_43) hx hb hml hown hts (cwV 0 hts gX5_statement_X5_next rfl rfl rfl hd_X5_next ⟨Nat.le_of_ble_eq_true rfl, Nat.le_of_ble_eq_true rfl⟩) (va_recv hK hP (ci := 5) (q0 := 0) rfl cM_at0) (Ln.id rfl) hA hK hP hD hS rfl hl.1 rfl rfl (Nat.le_of_ble_eq_true rfl) dX5_statement_91 (fun H locs hP hD hS => ?_)
            refine lv_bipush (v := 59) hx hb dX5_statement_94 (by decide +kernel) ?_
            refine lv_icmp_eq (tgt := 101) hx hb dX5_statement_96 (by decide) (fun c_44 => ?_) (fun c_44 => ?_)
            · replace hf := if_t c_44 hf
              refine lv_aload_n hx hb dX5_statement_101 rfl (lv_at hl 1 rfl) ?_
              refine lv_dup hx hb dX5_statement_102 rfl ?_
              refine va_get (D := D) (ci := 5) (v := .int (a_41.2 16 5)) (C := RX5) (T := TX5) (N := 27) hx hb hts hw5 hown hK hP 0 cM_at0 rfl 17 (by decide) k79 (fun _ h9 => h9) rfl dX5_statement_103 ?_
              refine lv_iconst (v := 1) hx hb dX5_statement_106 (by decide) ?_
              refine lv_iadd hx hb dX5_statement_107 ?_
              refine va_put (D := D) (ci := 5) (v := .int ((a_41.2 16 5) + (1 : Int32))) (ty := .int) (C := RX5) (T := TX5) (N := 27) hx hb hts hw5 tyX5 tyX5_ok nmX5 hown hK hP hD hS 0 cM_at0 rfl 17 (by decide) k79 (fun _ h9 => h9) rfl (tyX5_ok 17 (by decide)) rfl rfl (Nat.le_of_ble_eq_true rfl) dX5_statement_108 (fun H locs hP hD hS => ?_)
              obtain ⟨h_45, eh_45, hf⟩ := nm_e hf
              rw [cM_sc0_17, ← eh_45] at hP hD
              refine lv_iconst (v := 1) hx hb dX5_statement_111 (by decide) ?_
              exact hend ((1 : Int32), h_45) H locs _ _ hf hP hS dX5_statement_112
            · replace hf := if_f c_44 hf
              refine lv_iconst (v := 0) hx hb dX5_statement_99 (by decide) ?_
              exact hend ((0 : Int32), a_41.2) H locs _ _ hf hP hS dX5_statement_100
        · replace hf := if_f c_35 hf
          refine lv_iload_n hx hb dX5_statement_29 rfl (lv_at hl 0 rfl) ?_
          refine lv_bipush (v := 118) hx hb dX5_statement_30 (by decide +kernel) ?_
          refine lv_icmp_eq (tgt := 43) hx hb dX5_statement_32 (by decide) (fun c_46 => ?_) (fun c_46 => ?_)
          · replace hf := if_t c_46 hf
            refine lv_aload_n hx hb dX5_statement_43 rfl (lv_at hl 1 rfl) ?_
            refine va_get (D := D) (ci := 5) (v := .ref (A 10)) (C := RX5) (T := TX5) (N := 27) hx hb hts hw5 hown hK hP 0 cM_at0 rfl 13 (by decide) k37 (fun _ h9 => h9) rfl dX5_statement_44 ?_
            refine lv_aload_n hx hb dX5_statement_47 rfl (lv_at hl 1 rfl) ?_
            refine va_get (D := D) (ci := 5) (v := .int (M 16 6)) (C := RX5) (T := TX5) (N := 27) hx hb hts hw5 hown hK hP 0 cM_at0 rfl 18 (by decide) k101 (fun _ h9 => h9) rfl dX5_statement_48 ?_
            refine lv_iload_n hx hb dX5_statement_51 rfl (lv_at hl 0 rfl) ?_
            obtain ⟨c_47, hf⟩ := gi_e hf
            refine va_iast hx hb hK hP hD hS 10 0 cM_at10 rfl c_47 dX5_statement_52 (fun H locs hP hD hS => ?_)
            obtain ⟨h_48, eh_48, hf⟩ := nm_e hf
            rw [cM_su10, ← eh_48] at hP hD
            refine lv_aload_n hx hb dX5_statement_53 rfl (lv_at hl 1 rfl) ?_
            refine va_get (D := D) (ci := 5) (v := .ref (A 11)) (C := RX5) (T := TX5) (N := 27) hx hb hts hw5 hown hK hP 0 cM_at0 rfl 14 (by decide) k40 (fun _ h9 => h9) rfl dX5_statement_54 ?_
            refine lv_aload_n hx hb dX5_statement_57 rfl (lv_at hl 1 rfl) ?_
            refine va_get (D := D) (ci := 5) (v := .int (h_48 16 6)) (C := RX5) (T := TX5) (N := 27) hx hb hts hw5 hown hK hP 0 cM_at0 rfl 18 (by decide) k101 (fun _ h9 => h9) rfl dX5_statement_58 ?_
            refine lv_aload_n hx hb dX5_statement_61 rfl (lv_at hl 1 rfl) ?_
            refine va_get (D := D) (ci := 5) (v := .int (h_48 16 5)) (C := RX5) (T := TX5) (N := 27) hx hb hts hw5 hown hK hP 0 cM_at0 rfl 17 (by decide) k79 (fun _ h9 => h9) rfl dX5_statement_62 ?_
            obtain ⟨c_49, hf⟩ := gi_e hf
            refine va_iast hx hb hK hP hD hS 11 0 cM_at11 rfl c_49 dX5_statement_65 (fun H locs hP hD hS => ?_)
            obtain ⟨h_50, eh_50, hf⟩ := nm_e hf
            rw [cM_su11, ← eh_50] at hP hD
            refine lv_aload_n hx hb dX5_statement_66 rfl (lv_at hl 1 rfl) ?_
            refine lv_dup hx hb dX5_statement_67 rfl ?_
            refine va_get (D := D) (ci := 5) (v := .int (h_50 16 5)) (C := RX5) (T := TX5) (N := 27) hx hb hts hw5 hown hK hP 0 cM_at0 rfl 17 (by decide) k79 (fun _ h9 => h9) rfl dX5_statement_68 ?_
            refine lv_iconst (v := 1) hx hb dX5_statement_71 (by decide) ?_
            refine lv_iadd hx hb dX5_statement_72 ?_
            refine va_put (D := D) (ci := 5) (v := .int ((h_50 16 5) + (1 : Int32))) (ty := .int) (C := RX5) (T := TX5) (N := 27) hx hb hts hw5 tyX5 tyX5_ok nmX5 hown hK hP hD hS 0 cM_at0 rfl 17 (by decide) k79 (fun _ h9 => h9) rfl (tyX5_ok 17 (by decide)) rfl rfl (Nat.le_of_ble_eq_true rfl) dX5_statement_73 (fun H locs hP hD hS => ?_)
            obtain ⟨h_51, eh_51, hf⟩ := nm_e hf
            rw [cM_sc0_17, ← eh_51] at hP hD
            refine lv_aload_n hx hb dX5_statement_76 rfl (lv_at hl 1 rfl) ?_
            refine lv_iload_n hx hb dX5_statement_77 rfl (lv_at hl 0 rfl) ?_
            refine lv_iconst (v := 4) hx hb dX5_statement_78 (by decide) ?_
            refine lv_aload_n hx hb dX5_statement_79 rfl (lv_at hl 1 rfl) ?_
            refine va_get (D := D) (ci := 5) (v := .int (h_51 16 6)) (C := RX5) (T := TX5) (N := 27) hx hb hts hw5 hown hK hP 0 cM_at0 rfl 18 (by decide) k101 (fun _ h9 => h9) rfl dX5_statement_80 ?_
            refine lv_imul hx hb dX5_statement_83 ?_
            obtain ⟨a_52, ha_52, hf⟩ := bd_e hf
            refine Ct.callV (As := [.int a_1, .int ((4 : Int32) * (h_51 16 6))]) (rest := []) (st1 := [.int a_52.1]) (c_X5_readsAll l D cI A h_51 a_1 ((4 : Int32) * (h_51 16 6)) a_52 ha_52) hx hb hml hown hts (cwV 2 hts gX5_statement_X5_readsAll rfl rfl rfl hd_X5_readsAll ⟨Nat.le_of_ble_eq_true rfl, Nat.le_of_ble_eq_true rfl⟩) (va_recv hK hP (ci := 5) (q0 := 0) rfl cM_at0) (Ln.id rfl) hA hK hP hD hS rfl hl.1 rfl rfl (Nat.le_of_ble_eq_true rfl) dX5_statement_84 (fun H locs hP hD hS => ?_)
            replace hP : va_P D vwCl (cM cI A a_52.2) H := hP
            replace hD : va_D AA (cM cI A a_52.2) := hD
            refine lv_if_eq (tgt := 99) hx hb dX5_statement_87 (by decide) (fun c_53 => ?_) (fun c_53 => ?_)
            · replace hf := if_t c_53 hf
              refine lv_iconst (v := 0) hx hb dX5_statement_99 (by decide) ?_
              exact hend ((0 : Int32), a_52.2) H locs _ _ hf hP hS dX5_statement_100
            · replace hf := if_f c_53 hf
              refine lv_aload_n hx hb dX5_statement_90 rfl (lv_at hl 1 rfl) ?_
              obtain ⟨a_54, ha_54, hf⟩ := bd_e hf
              refine Ct.callV (As := []) (rest := []) (st1 := [.int a_54]) (c_X5_next l D cI A a_52.2 a_54 ha_54) hx hb hml hown hts (cwV 0 hts gX5_statement_X5_next rfl rfl rfl hd_X5_next ⟨Nat.le_of_ble_eq_true rfl, Nat.le_of_ble_eq_true rfl⟩) (va_recv hK hP (ci := 5) (q0 := 0) rfl cM_at0) (Ln.id rfl) hA hK hP hD hS rfl hl.1 rfl rfl (Nat.le_of_ble_eq_true rfl) dX5_statement_91 (fun H locs hP hD hS => ?_)
              refine lv_bipush (v := 59) hx hb dX5_statement_94 (by decide +kernel) ?_
              refine lv_icmp_eq (tgt := 101) hx hb dX5_statement_96 (by decide) (fun c_55 => ?_) (fun c_55 => ?_)
              · replace hf := if_t c_55 hf
                refine lv_aload_n hx hb dX5_statement_101 rfl (lv_at hl 1 rfl) ?_
                refine lv_dup hx hb dX5_statement_102 rfl ?_
                refine va_get (D := D) (ci := 5) (v := .int (a_52.2 16 5)) (C := RX5) (T := TX5) (N := 27) hx hb hts hw5 hown hK hP 0 cM_at0 rfl 17 (by decide) k79 (fun _ h9 => h9) rfl dX5_statement_103 ?_
                refine lv_iconst (v := 1) hx hb dX5_statement_106 (by decide) ?_
                refine lv_iadd hx hb dX5_statement_107 ?_
                refine va_put (D := D) (ci := 5) (v := .int ((a_52.2 16 5) + (1 : Int32))) (ty := .int) (C := RX5) (T := TX5) (N := 27) hx hb hts hw5 tyX5 tyX5_ok nmX5 hown hK hP hD hS 0 cM_at0 rfl 17 (by decide) k79 (fun _ h9 => h9) rfl (tyX5_ok 17 (by decide)) rfl rfl (Nat.le_of_ble_eq_true rfl) dX5_statement_108 (fun H locs hP hD hS => ?_)
                obtain ⟨h_56, eh_56, hf⟩ := nm_e hf
                rw [cM_sc0_17, ← eh_56] at hP hD
                refine lv_iconst (v := 1) hx hb dX5_statement_111 (by decide) ?_
                exact hend ((1 : Int32), h_56) H locs _ _ hf hP hS dX5_statement_112
              · replace hf := if_f c_55 hf
                refine lv_iconst (v := 0) hx hb dX5_statement_99 (by decide) ?_
                exact hend ((0 : Int32), a_52.2) H locs _ _ hf hP hS dX5_statement_100
          · replace hf := if_f c_46 hf
            refine lv_iload_n hx hb dX5_statement_35 rfl (lv_at hl 0 rfl) ?_
            refine lv_bipush (v := 119) hx hb dX5_statement_36 (by decide +kernel) ?_
            refine lv_icmp_eq (tgt := 43) hx hb dX5_statement_38 (by decide) (fun c_57 => ?_) (fun c_57 => ?_)
            · replace hf := if_t c_57 hf
              refine lv_aload_n hx hb dX5_statement_43 rfl (lv_at hl 1 rfl) ?_
              refine va_get (D := D) (ci := 5) (v := .ref (A 10)) (C := RX5) (T := TX5) (N := 27) hx hb hts hw5 hown hK hP 0 cM_at0 rfl 13 (by decide) k37 (fun _ h9 => h9) rfl dX5_statement_44 ?_
              refine lv_aload_n hx hb dX5_statement_47 rfl (lv_at hl 1 rfl) ?_
              refine va_get (D := D) (ci := 5) (v := .int (M 16 6)) (C := RX5) (T := TX5) (N := 27) hx hb hts hw5 hown hK hP 0 cM_at0 rfl 18 (by decide) k101 (fun _ h9 => h9) rfl dX5_statement_48 ?_
              refine lv_iload_n hx hb dX5_statement_51 rfl (lv_at hl 0 rfl) ?_
              obtain ⟨c_58, hf⟩ := gi_e hf
              refine va_iast hx hb hK hP hD hS 10 0 cM_at10 rfl c_58 dX5_statement_52 (fun H locs hP hD hS => ?_)
              obtain ⟨h_59, eh_59, hf⟩ := nm_e hf
              rw [cM_su10, ← eh_59] at hP hD
              refine lv_aload_n hx hb dX5_statement_53 rfl (lv_at hl 1 rfl) ?_
              refine va_get (D := D) (ci := 5) (v := .ref (A 11)) (C := RX5) (T := TX5) (N := 27) hx hb hts hw5 hown hK hP 0 cM_at0 rfl 14 (by decide) k40 (fun _ h9 => h9) rfl dX5_statement_54 ?_
              refine lv_aload_n hx hb dX5_statement_57 rfl (lv_at hl 1 rfl) ?_
              refine va_get (D := D) (ci := 5) (v := .int (h_59 16 6)) (C := RX5) (T := TX5) (N := 27) hx hb hts hw5 hown hK hP 0 cM_at0 rfl 18 (by decide) k101 (fun _ h9 => h9) rfl dX5_statement_58 ?_
              refine lv_aload_n hx hb dX5_statement_61 rfl (lv_at hl 1 rfl) ?_
              refine va_get (D := D) (ci := 5) (v := .int (h_59 16 5)) (C := RX5) (T := TX5) (N := 27) hx hb hts hw5 hown hK hP 0 cM_at0 rfl 17 (by decide) k79 (fun _ h9 => h9) rfl dX5_statement_62 ?_
              obtain ⟨c_60, hf⟩ := gi_e hf
              refine va_iast hx hb hK hP hD hS 11 0 cM_at11 rfl c_60 dX5_statement_65 (fun H locs hP hD hS => ?_)
              obtain ⟨h_61, eh_61, hf⟩ := nm_e hf
              rw [cM_su11, ← eh_61] at hP hD
              refine lv_aload_n hx hb dX5_statement_66 rfl (lv_at hl 1 rfl) ?_
              refine lv_dup hx hb dX5_statement_67 rfl ?_
              refine va_get (D := D) (ci := 5) (v := .int (h_61 16 5)) (C := RX5) (T := TX5) (N := 27) hx hb hts hw5 hown hK hP 0 cM_at0 rfl 17 (by decide) k79 (fun _ h9 => h9) rfl dX5_statement_68 ?_
              refine lv_iconst (v := 1) hx hb dX5_statement_71 (by decide) ?_
              refine lv_iadd hx hb dX5_statement_72 ?_
              refine va_put (D := D) (ci := 5) (v := .int ((h_61 16 5) + (1 : Int32))) (ty := .int) (C := RX5) (T := TX5) (N := 27) hx hb hts hw5 tyX5 tyX5_ok nmX5 hown hK hP hD hS 0 cM_at0 rfl 17 (by decide) k79 (fun _ h9 => h9) rfl (tyX5_ok 17 (by decide)) rfl rfl (Nat.le_of_ble_eq_true rfl) dX5_statement_73 (fun H locs hP hD hS => ?_)
              obtain ⟨h_62, eh_62, hf⟩ := nm_e hf
              rw [cM_sc0_17, ← eh_62] at hP hD
              refine lv_aload_n hx hb dX5_statement_76 rfl (lv_at hl 1 rfl) ?_
              refine lv_iload_n hx hb dX5_statement_77 rfl (lv_at hl 0 rfl) ?_
              refine lv_iconst (v := 4) hx hb dX5_statement_78 (by decide) ?_
              refine lv_aload_n hx hb dX5_statement_79 rfl (lv_at hl 1 rfl) ?_
              refine va_get (D := D) (ci := 5) (v := .int (h_62 16 6)) (C := RX5) (T := TX5) (N := 27) hx hb hts hw5 hown hK hP 0 cM_at0 rfl 18 (by decide) k101 (fun _ h9 => h9) rfl dX5_statement_80 ?_
              refine lv_imul hx hb dX5_statement_83 ?_
              obtain ⟨a_63, ha_63, hf⟩ := bd_e hf
              refine Ct.callV (As := [.int a_1, .int ((4 : Int32) * (h_62 16 6))]) (rest := []) (st1 := [.int a_63.1]) (c_X5_readsAll l D cI A h_62 a_1 ((4 : Int32) * (h_62 16 6)) a_63 ha_63) hx hb hml hown hts (cwV 2 hts gX5_statement_X5_readsAll rfl rfl rfl hd_X5_readsAll ⟨Nat.le_of_ble_eq_true rfl, Nat.le_of_ble_eq_true rfl⟩) (va_recv hK hP (ci := 5) (q0 := 0) rfl cM_at0) (Ln.id rfl) hA hK hP hD hS rfl hl.1 rfl rfl (Nat.le_of_ble_eq_true rfl) dX5_statement_84 (fun H locs hP hD hS => ?_)
              replace hP : va_P D vwCl (cM cI A a_63.2) H := hP
              replace hD : va_D AA (cM cI A a_63.2) := hD
              refine lv_if_eq (tgt := 99) hx hb dX5_statement_87 (by decide) (fun c_64 => ?_) (fun c_64 => ?_)
              · replace hf := if_t c_64 hf
                refine lv_iconst (v := 0) hx hb dX5_statement_99 (by decide) ?_
                exact hend ((0 : Int32), a_63.2) H locs _ _ hf hP hS dX5_statement_100
              · replace hf := if_f c_64 hf
                refine lv_aload_n hx hb dX5_statement_90 rfl (lv_at hl 1 rfl) ?_
                obtain ⟨a_65, ha_65, hf⟩ := bd_e hf
                refine Ct.callV (As := []) (rest := []) (st1 := [.int a_65]) (c_X5_next l D cI A a_63.2 a_65 ha_65) hx hb hml hown hts (cwV 0 hts gX5_statement_X5_next rfl rfl rfl hd_X5_next ⟨Nat.le_of_ble_eq_true rfl, Nat.le_of_ble_eq_true rfl⟩) (va_recv hK hP (ci := 5) (q0 := 0) rfl cM_at0) (Ln.id rfl) hA hK hP hD hS rfl hl.1 rfl rfl (Nat.le_of_ble_eq_true rfl) dX5_statement_91 (fun H locs hP hD hS => ?_)
                refine lv_bipush (v := 59) hx hb dX5_statement_94 (by decide +kernel) ?_
                refine lv_icmp_eq (tgt := 101) hx hb dX5_statement_96 (by decide) (fun c_66 => ?_) (fun c_66 => ?_)
                · replace hf := if_t c_66 hf
                  refine lv_aload_n hx hb dX5_statement_101 rfl (lv_at hl 1 rfl) ?_
                  refine lv_dup hx hb dX5_statement_102 rfl ?_
                  refine va_get (D := D) (ci := 5) (v := .int (a_63.2 16 5)) (C := RX5) (T := TX5) (N := 27) hx hb hts hw5 hown hK hP 0 cM_at0 rfl 17 (by decide) k79 (fun _ h9 => h9) rfl dX5_statement_103 ?_
                  refine lv_iconst (v := 1) hx hb dX5_statement_106 (by decide) ?_
                  refine lv_iadd hx hb dX5_statement_107 ?_
                  refine va_put (D := D) (ci := 5) (v := .int ((a_63.2 16 5) + (1 : Int32))) (ty := .int) (C := RX5) (T := TX5) (N := 27) hx hb hts hw5 tyX5 tyX5_ok nmX5 hown hK hP hD hS 0 cM_at0 rfl 17 (by decide) k79 (fun _ h9 => h9) rfl (tyX5_ok 17 (by decide)) rfl rfl (Nat.le_of_ble_eq_true rfl) dX5_statement_108 (fun H locs hP hD hS => ?_)
                  obtain ⟨h_67, eh_67, hf⟩ := nm_e hf
                  rw [cM_sc0_17, ← eh_67] at hP hD
                  refine lv_iconst (v := 1) hx hb dX5_statement_111 (by decide) ?_
                  exact hend ((1 : Int32), h_67) H locs _ _ hf hP hS dX5_statement_112
                · replace hf := if_f c_66 hf
                  refine lv_iconst (v := 0) hx hb dX5_statement_99 (by decide) ?_
                  exact hend ((0 : Int32), a_63.2) H locs _ _ hf hP hS dX5_statement_100
            · replace hf := if_f c_57 hf
              refine lv_iconst (v := 0) hx hb dX5_statement_41 (by decide) ?_
              exact hend ((0 : Int32), M) H locs _ _ hf hP hS dX5_statement_42

def f_X5_comesShip (M : St) (p1 : Int32) : Option (Int32 × St) := fzp (if (M 16 0) = (5 : Int32) then (some ((0 : Int32), M)) else (gi (M 16 0) 5 (nm (su M 1 ((M 16 0)).toNatClampNeg p1) fun h_3 => (gi (h_3 16 0) 5 (nm (su h_3 2 ((h_3 16 0)).toNatClampNeg (0 : Int32)) fun h_5 => (gi (h_5 16 0) 5 (nm (su h_5 3 ((h_5 16 0)).toNatClampNeg (0 : Int32)) fun h_7 => (nm (su h_7 16 0 ((h_7 16 0) + (1 : Int32))) fun h_8 => (some ((1 : Int32), h_8))))))))))
def rm_X5_comesShip : Room := { frames := 0, cells := 0, slots := 0, locals := 0 }
theorem hd_X5_comesShip : yX5_comesShip.cls = RX5 ∧ yX5_comesShip.cls ≠ "java/lang/invoke/MethodHandle" ∧ yX5_comesShip.cls ≠ "java/lang/invoke/VarHandle" ∧ (parseMethodDescriptor yX5_comesShip.desc).map (fun d => d.parameters.length) = some 1 := by decide +kernel
set_option maxRecDepth 100000 in
set_option maxHeartbeats 4000000 in
theorem c_X5_comesShip (l : Launch) (D : va_G) (cI : ClassId) (A : Nat → Nat) (M : St) (p1 : Int32) (r : Int32 × St) (hf : f_X5_comesShip M p1 = some r) : Ct l yX5_comesShip wsX5_comesShip rm_X5_comesShip D cI (cM cI A M) (cM cI A r.2) [.ref (A 0), .int p1] (some (.int r.1)) := by
  unfold f_X5_comesShip at hf
  obtain ⟨hz, hf⟩ := fzp_e hf
  refine Ct.ofZ hz (cc := cX5_comesShip) (maxL := 2) (by decide +kernel) rfl (Nat.le_of_ble_eq_true rfl) ?_
  intro p e s m args below meth c AA Q H locs ls hx hb hml hown hts hA hK hP hD hS hl hend0
  have hend : ∀ (r1 : Int32 × St) (H : Heap) (locs : List Loc) (pc : Nat) (ls : Array Slot), some r1 = some r → va_P D vwCl (cM cI A r1.2) H → va_S AA s.heap H locs → decode cX5_comesShip pc = .ok (.ireturn, 1) → W p l e rm_X5_comesShip s m args below meth c H locs 0 0 Q (F0 m pc ls [.int r1.1]) := by
    intro r1 H locs pc ls e1 hP hS hd; cases e1; exact hend0 H locs pc ls hP hS hd
  clear hend0
  have hw5 : ∀ w ∈ wsX50, w ∈ wsX5_comesShip := by decide +kernel
  have k13 := hts (.fieldLink RX5 13 "AnchorsForConfessionModel" "heavy" "[I") (by decide +kernel)
  have k16 := hts (.fieldLink RX5 16 "AnchorsForConfessionModel" "loose" "[I") (by decide +kernel)
  have k19 := hts (.fieldLink RX5 19 "AnchorsForConfessionModel" "out" "[I") (by decide +kernel)
  have k58 := hts (.fieldLink RX5 58 "AnchorsForConfessionModel" "ships" "I") (by decide +kernel)
  replace hl : lv_has ls 2 [(0, .ref (A 0)), (1, .int p1)] := hl
  refine lv_aload_n hx hb dX5_comesShip_0 rfl (lv_at hl 0 rfl) ?_
  refine va_get (D := D) (ci := 5) (v := .int (M 16 0)) (C := RX5) (T := TX5) (N := 27) hx hb hts hw5 hown hK hP 0 cM_at0 rfl 8 (by decide) k58 (fun _ h9 => h9) rfl dX5_comesShip_1 ?_
  refine lv_iconst (v := 5) hx hb dX5_comesShip_4 (by decide) ?_
  refine lv_icmp_ne (tgt := 10) hx hb dX5_comesShip_5 (by decide) (fun c_1 => ?_) (fun c_1 => ?_)
  · replace hf := if_f c_1 hf
    refine lv_aload_n hx hb dX5_comesShip_10 rfl (lv_at hl 0 rfl) ?_
    refine va_get (D := D) (ci := 5) (v := .ref (A 2)) (C := RX5) (T := TX5) (N := 27) hx hb hts hw5 hown hK hP 0 cM_at0 rfl 1 (by decide) k13 (fun _ h9 => h9) rfl dX5_comesShip_11 ?_
    refine lv_aload_n hx hb dX5_comesShip_14 rfl (lv_at hl 0 rfl) ?_
    refine va_get (D := D) (ci := 5) (v := .int (M 16 0)) (C := RX5) (T := TX5) (N := 27) hx hb hts hw5 hown hK hP 0 cM_at0 rfl 8 (by decide) k58 (fun _ h9 => h9) rfl dX5_comesShip_15 ?_
    refine lv_iload_n hx hb dX5_comesShip_18 rfl (lv_at hl 1 rfl) ?_
    obtain ⟨c_2, hf⟩ := gi_e hf
    refine va_iast hx hb hK hP hD hS 2 0 cM_at2 rfl c_2 dX5_comesShip_19 (fun H locs hP hD hS => ?_)
    obtain ⟨h_3, eh_3, hf⟩ := nm_e hf
    rw [cM_su2, ← eh_3] at hP hD
    refine lv_aload_n hx hb dX5_comesShip_20 rfl (lv_at hl 0 rfl) ?_
    refine va_get (D := D) (ci := 5) (v := .ref (A 3)) (C := RX5) (T := TX5) (N := 27) hx hb hts hw5 hown hK hP 0 cM_at0 rfl 2 (by decide) k16 (fun _ h9 => h9) rfl dX5_comesShip_21 ?_
    refine lv_aload_n hx hb dX5_comesShip_24 rfl (lv_at hl 0 rfl) ?_
    refine va_get (D := D) (ci := 5) (v := .int (h_3 16 0)) (C := RX5) (T := TX5) (N := 27) hx hb hts hw5 hown hK hP 0 cM_at0 rfl 8 (by decide) k58 (fun _ h9 => h9) rfl dX5_comesShip_25 ?_
    refine lv_iconst (v := 0) hx hb dX5_comesShip_28 (by decide) ?_
    obtain ⟨c_4, hf⟩ := gi_e hf
    refine va_iast hx hb hK hP hD hS 3 0 cM_at3 rfl c_4 dX5_comesShip_29 (fun H locs hP hD hS => ?_)
    obtain ⟨h_5, eh_5, hf⟩ := nm_e hf
    rw [cM_su3, ← eh_5] at hP hD
    refine lv_aload_n hx hb dX5_comesShip_30 rfl (lv_at hl 0 rfl) ?_
    refine va_get (D := D) (ci := 5) (v := .ref (A 4)) (C := RX5) (T := TX5) (N := 27) hx hb hts hw5 hown hK hP 0 cM_at0 rfl 3 (by decide) k19 (fun _ h9 => h9) rfl dX5_comesShip_31 ?_
    refine lv_aload_n hx hb dX5_comesShip_34 rfl (lv_at hl 0 rfl) ?_
    refine va_get (D := D) (ci := 5) (v := .int (h_5 16 0)) (C := RX5) (T := TX5) (N := 27) hx hb hts hw5 hown hK hP 0 cM_at0 rfl 8 (by decide) k58 (fun _ h9 => h9) rfl dX5_comesShip_35 ?_
    refine lv_iconst (v := 0) hx hb dX5_comesShip_38 (by decide) ?_
    obtain ⟨c_6, hf⟩ := gi_e hf
    refine va_iast hx hb hK hP hD hS 4 0 cM_at4 rfl c_6 dX5_comesShip_39 (fun H locs hP hD hS => ?_)
    obtain ⟨h_7, eh_7, hf⟩ := nm_e hf
    rw [cM_su4, ← eh_7] at hP hD
    refine lv_aload_n hx hb dX5_comesShip_40 rfl (lv_at hl 0 rfl) ?_
    refine lv_dup hx hb dX5_comesShip_41 rfl ?_
    refine va_get (D := D) (ci := 5) (v := .int (h_7 16 0)) (C := RX5) (T := TX5) (N := 27) hx hb hts hw5 hown hK hP 0 cM_at0 rfl 8 (by decide) k58 (fun _ h9 => h9) rfl dX5_comesShip_42 ?_
    refine lv_iconst (v := 1) hx hb dX5_comesShip_45 (by decide) ?_
    refine lv_iadd hx hb dX5_comesShip_46 ?_
    refine va_put (D := D) (ci := 5) (v := .int ((h_7 16 0) + (1 : Int32))) (ty := .int) (C := RX5) (T := TX5) (N := 27) hx hb hts hw5 tyX5 tyX5_ok nmX5 hown hK hP hD hS 0 cM_at0 rfl 8 (by decide) k58 (fun _ h9 => h9) rfl (tyX5_ok 8 (by decide)) rfl rfl (Nat.le_of_ble_eq_true rfl) dX5_comesShip_47 (fun H locs hP hD hS => ?_)
    obtain ⟨h_8, eh_8, hf⟩ := nm_e hf
    rw [cM_sc0_8, ← eh_8] at hP hD
    refine lv_iconst (v := 1) hx hb dX5_comesShip_50 (by decide) ?_
    exact hend ((1 : Int32), h_8) H locs _ _ hf hP hS dX5_comesShip_51
  · replace hf := if_t c_1 hf
    refine lv_iconst (v := 0) hx hb dX5_comesShip_8 (by decide) ?_
    exact hend ((0 : Int32), M) H locs _ _ hf hP hS dX5_comesShip_9

def f_X5_comesMan (M : St) (p1 : Int32) : Option (Int32 × St) := fzp (gi (p1 + (3 : Int32)) 192 (bd (f_X5_isShip M (M 11 ((p1 + (3 : Int32))).toNatClampNeg)) fun a_2 => (if a_2 = 0 then (some ((0 : Int32), M)) else (if (M 16 1) = (8 : Int32) then (some ((0 : Int32), M)) else (gi p1 192 (gi (M 16 1) 8 (nm (su M 4 ((M 16 1)).toNatClampNeg (M 11 (p1).toNatClampNeg)) fun h_7 => (gi (p1 + (1 : Int32)) 192 (gi (h_7 16 1) 8 (nm (su h_7 5 ((h_7 16 1)).toNatClampNeg (h_7 11 ((p1 + (1 : Int32))).toNatClampNeg)) fun h_10 => (gi (p1 + (2 : Int32)) 192 (gi (h_10 16 1) 8 (nm (su h_10 6 ((h_10 16 1)).toNatClampNeg (h_10 11 ((p1 + (2 : Int32))).toNatClampNeg)) fun h_13 => (gi (p1 + (3 : Int32)) 192 (gi (h_13 16 1) 8 (nm (su h_13 7 ((h_13 16 1)).toNatClampNeg (h_13 11 ((p1 + (3 : Int32))).toNatClampNeg)) fun h_16 => (nm (su h_16 16 1 ((h_16 16 1) + (1 : Int32))) fun h_17 => (some ((1 : Int32), h_17)))))))))))))))))))
def rm_X5_comesMan : Room := { frames := 1, cells := 0, slots := 0, locals := 21 }
theorem hd_X5_comesMan : yX5_comesMan.cls = RX5 ∧ yX5_comesMan.cls ≠ "java/lang/invoke/MethodHandle" ∧ yX5_comesMan.cls ≠ "java/lang/invoke/VarHandle" ∧ (parseMethodDescriptor yX5_comesMan.desc).map (fun d => d.parameters.length) = some 1 := by decide +kernel
set_option maxRecDepth 100000 in
set_option maxHeartbeats 4000000 in
theorem c_X5_comesMan (l : Launch) (D : va_G) (cI : ClassId) (A : Nat → Nat) (M : St) (p1 : Int32) (r : Int32 × St) (hf : f_X5_comesMan M p1 = some r) : Ct l yX5_comesMan wsX5_comesMan rm_X5_comesMan D cI (cM cI A M) (cM cI A r.2) [.ref (A 0), .int p1] (some (.int r.1)) := by
  unfold f_X5_comesMan at hf
  obtain ⟨hz, hf⟩ := fzp_e hf
  refine Ct.ofZ hz (cc := cX5_comesMan) (maxL := 2) (by decide +kernel) rfl (Nat.le_of_ble_eq_true rfl) ?_
  intro p e s m args below meth c AA Q H locs ls hx hb hml hown hts hA hK hP hD hS hl hend0
  have hend : ∀ (r1 : Int32 × St) (H : Heap) (locs : List Loc) (pc : Nat) (ls : Array Slot), some r1 = some r → va_P D vwCl (cM cI A r1.2) H → va_S AA s.heap H locs → decode cX5_comesMan pc = .ok (.ireturn, 1) → W p l e rm_X5_comesMan s m args below meth c H locs 0 0 Q (F0 m pc ls [.int r1.1]) := by
    intro r1 H locs pc ls e1 hP hS hd; cases e1; exact hend0 H locs pc ls hP hS hd
  clear hend0
  have hw5 : ∀ w ∈ wsX50, w ∈ wsX5_comesMan := by decide +kernel
  have k22 := hts (.fieldLink RX5 22 "AnchorsForConfessionModel" "kind" "[I") (by decide +kernel)
  have k25 := hts (.fieldLink RX5 25 "AnchorsForConfessionModel" "figure" "[I") (by decide +kernel)
  have k28 := hts (.fieldLink RX5 28 "AnchorsForConfessionModel" "sins" "[I") (by decide +kernel)
  have k31 := hts (.fieldLink RX5 31 "AnchorsForConfessionModel" "aboard" "[I") (by decide +kernel)
  have k43 := hts (.fieldLink RX5 43 "AnchorsForConfessionModel" "told" "[I") (by decide +kernel)
  have k65 := hts (.fieldLink RX5 65 "AnchorsForConfessionModel" "men" "I") (by decide +kernel)
  replace hl : lv_has ls 2 [(0, .ref (A 0)), (1, .int p1)] := hl
  refine lv_aload_n hx hb dX5_comesMan_0 rfl (lv_at hl 0 rfl) ?_
  refine lv_aload_n hx hb dX5_comesMan_1 rfl (lv_at hl 0 rfl) ?_
  refine va_get (D := D) (ci := 5) (v := .ref (A 12)) (C := RX5) (T := TX5) (N := 27) hx hb hts hw5 hown hK hP 0 cM_at0 rfl 15 (by decide) k43 (fun _ h9 => h9) rfl dX5_comesMan_2 ?_
  refine lv_iload_n hx hb dX5_comesMan_5 rfl (lv_at hl 1 rfl) ?_
  refine lv_iconst (v := 3) hx hb dX5_comesMan_6 (by decide) ?_
  refine lv_iadd hx hb dX5_comesMan_7 ?_
  obtain ⟨c_1, hf⟩ := gi_e hf
  refine va_iald hx hb hK hP 12 0 cM_at12 rfl c_1 dX5_comesMan_8 ?_
  obtain ⟨a_2, ha_2, hf⟩ := bd_e hf
  refine Ct.callV (As := [.int (M 11 ((p1 + (3 : Int32))).toNatClampNeg)]) (rest := []) (st1 := [.int a_2]) (c_X5_isShip l D cI A M (M 11 ((p1 + (3 : Int32))).toNatClampNeg) a_2 ha_2) hx hb hml hown hts (cwV 1 hts gX5_comesMan_X5_isShip rfl rfl rfl hd_X5_isShip ⟨Nat.le_of_ble_eq_true rfl, Nat.le_of_ble_eq_true rfl⟩) (va_recv hK hP (ci := 5) (q0 := 0) rfl cM_at0) (Ln.id rfl) hA hK hP hD hS rfl hl.1 rfl rfl (Nat.le_of_ble_eq_true rfl) dX5_comesMan_9 (fun H locs hP hD hS => ?_)
  refine lv_if_eq (tgt := 24) hx hb dX5_comesMan_12 (by decide) (fun c_3 => ?_) (fun c_3 => ?_)
  · replace hf := if_t c_3 hf
    refine lv_iconst (v := 0) hx hb dX5_comesMan_24 (by decide) ?_
    exact hend ((0 : Int32), M) H locs _ _ hf hP hS dX5_comesMan_25
  · replace hf := if_f c_3 hf
    refine lv_aload_n hx hb dX5_comesMan_15 rfl (lv_at hl 0 rfl) ?_
    refine va_get (D := D) (ci := 5) (v := .int (M 16 1)) (C := RX5) (T := TX5) (N := 27) hx hb hts hw5 hown hK hP 0 cM_at0 rfl 9 (by decide) k65 (fun _ h9 => h9) rfl dX5_comesMan_16 ?_
    refine lv_bipush (v := 8) hx hb dX5_comesMan_19 (by decide +kernel) ?_
    refine lv_icmp_ne (tgt := 26) hx hb dX5_comesMan_21 (by decide) (fun c_4 => ?_) (fun c_4 => ?_)
    · replace hf := if_f c_4 hf
      refine lv_aload_n hx hb dX5_comesMan_26 rfl (lv_at hl 0 rfl) ?_
      refine va_get (D := D) (ci := 5) (v := .ref (A 5)) (C := RX5) (T := TX5) (N := 27) hx hb hts hw5 hown hK hP 0 cM_at0 rfl 4 (by decide) k22 (fun _ h9 => h9) rfl dX5_comesMan_27 ?_
      refine lv_aload_n hx hb dX5_comesMan_30 rfl (lv_at hl 0 rfl) ?_
      refine va_get (D := D) (ci := 5) (v := .int (M 16 1)) (C := RX5) (T := TX5) (N := 27) hx hb hts hw5 hown hK hP 0 cM_at0 rfl 9 (by decide) k65 (fun _ h9 => h9) rfl dX5_comesMan_31 ?_
      refine lv_aload_n hx hb dX5_comesMan_34 rfl (lv_at hl 0 rfl) ?_
      refine va_get (D := D) (ci := 5) (v := .ref (A 12)) (C := RX5) (T := TX5) (N := 27) hx hb hts hw5 hown hK hP 0 cM_at0 rfl 15 (by decide) k43 (fun _ h9 => h9) rfl dX5_comesMan_35 ?_
      refine lv_iload_n hx hb dX5_comesMan_38 rfl (lv_at hl 1 rfl) ?_
      obtain ⟨c_5, hf⟩ := gi_e hf
      refine va_iald hx hb hK hP 12 0 cM_at12 rfl c_5 dX5_comesMan_39 ?_
      obtain ⟨c_6, hf⟩ := gi_e hf
      refine va_iast hx hb hK hP hD hS 5 0 cM_at5 rfl c_6 dX5_comesMan_40 (fun H locs hP hD hS => ?_)
      obtain ⟨h_7, eh_7, hf⟩ := nm_e hf
      rw [cM_su5, ← eh_7] at hP hD
      refine lv_aload_n hx hb dX5_comesMan_41 rfl (lv_at hl 0 rfl) ?_
      refine va_get (D := D) (ci := 5) (v := .ref (A 6)) (C := RX5) (T := TX5) (N := 27) hx hb hts hw5 hown hK hP 0 cM_at0 rfl 5 (by decide) k25 (fun _ h9 => h9) rfl dX5_comesMan_42 ?_
      refine lv_aload_n hx hb dX5_comesMan_45 rfl (lv_at hl 0 rfl) ?_
      refine va_get (D := D) (ci := 5) (v := .int (h_7 16 1)) (C := RX5) (T := TX5) (N := 27) hx hb hts hw5 hown hK hP 0 cM_at0 rfl 9 (by decide) k65 (fun _ h9 => h9) rfl dX5_comesMan_46 ?_
      refine lv_aload_n hx hb dX5_comesMan_49 rfl (lv_at hl 0 rfl) ?_
      refine va_get (D := D) (ci := 5) (v := .ref (A 12)) (C := RX5) (T := TX5) (N := 27) hx hb hts hw5 hown hK hP 0 cM_at0 rfl 15 (by decide) k43 (fun _ h9 => h9) rfl dX5_comesMan_50 ?_
      refine lv_iload_n hx hb dX5_comesMan_53 rfl (lv_at hl 1 rfl) ?_
      refine lv_iconst (v := 1) hx hb dX5_comesMan_54 (by decide) ?_
      refine lv_iadd hx hb dX5_comesMan_55 ?_
      obtain ⟨c_8, hf⟩ := gi_e hf
      refine va_iald hx hb hK hP 12 0 cM_at12 rfl c_8 dX5_comesMan_56 ?_
      obtain ⟨c_9, hf⟩ := gi_e hf
      refine va_iast hx hb hK hP hD hS 6 0 cM_at6 rfl c_9 dX5_comesMan_57 (fun H locs hP hD hS => ?_)
      obtain ⟨h_10, eh_10, hf⟩ := nm_e hf
      rw [cM_su6, ← eh_10] at hP hD
      refine lv_aload_n hx hb dX5_comesMan_58 rfl (lv_at hl 0 rfl) ?_
      refine va_get (D := D) (ci := 5) (v := .ref (A 7)) (C := RX5) (T := TX5) (N := 27) hx hb hts hw5 hown hK hP 0 cM_at0 rfl 6 (by decide) k28 (fun _ h9 => h9) rfl dX5_comesMan_59 ?_
      refine lv_aload_n hx hb dX5_comesMan_62 rfl (lv_at hl 0 rfl) ?_
      refine va_get (D := D) (ci := 5) (v := .int (h_10 16 1)) (C := RX5) (T := TX5) (N := 27) hx hb hts hw5 hown hK hP 0 cM_at0 rfl 9 (by decide) k65 (fun _ h9 => h9) rfl dX5_comesMan_63 ?_
      refine lv_aload_n hx hb dX5_comesMan_66 rfl (lv_at hl 0 rfl) ?_
      refine va_get (D := D) (ci := 5) (v := .ref (A 12)) (C := RX5) (T := TX5) (N := 27) hx hb hts hw5 hown hK hP 0 cM_at0 rfl 15 (by decide) k43 (fun _ h9 => h9) rfl dX5_comesMan_67 ?_
      refine lv_iload_n hx hb dX5_comesMan_70 rfl (lv_at hl 1 rfl) ?_
      refine lv_iconst (v := 2) hx hb dX5_comesMan_71 (by decide) ?_
      refine lv_iadd hx hb dX5_comesMan_72 ?_
      obtain ⟨c_11, hf⟩ := gi_e hf
      refine va_iald hx hb hK hP 12 0 cM_at12 rfl c_11 dX5_comesMan_73 ?_
      obtain ⟨c_12, hf⟩ := gi_e hf
      refine va_iast hx hb hK hP hD hS 7 0 cM_at7 rfl c_12 dX5_comesMan_74 (fun H locs hP hD hS => ?_)
      obtain ⟨h_13, eh_13, hf⟩ := nm_e hf
      rw [cM_su7, ← eh_13] at hP hD
      refine lv_aload_n hx hb dX5_comesMan_75 rfl (lv_at hl 0 rfl) ?_
      refine va_get (D := D) (ci := 5) (v := .ref (A 8)) (C := RX5) (T := TX5) (N := 27) hx hb hts hw5 hown hK hP 0 cM_at0 rfl 7 (by decide) k31 (fun _ h9 => h9) rfl dX5_comesMan_76 ?_
      refine lv_aload_n hx hb dX5_comesMan_79 rfl (lv_at hl 0 rfl) ?_
      refine va_get (D := D) (ci := 5) (v := .int (h_13 16 1)) (C := RX5) (T := TX5) (N := 27) hx hb hts hw5 hown hK hP 0 cM_at0 rfl 9 (by decide) k65 (fun _ h9 => h9) rfl dX5_comesMan_80 ?_
      refine lv_aload_n hx hb dX5_comesMan_83 rfl (lv_at hl 0 rfl) ?_
      refine va_get (D := D) (ci := 5) (v := .ref (A 12)) (C := RX5) (T := TX5) (N := 27) hx hb hts hw5 hown hK hP 0 cM_at0 rfl 15 (by decide) k43 (fun _ h9 => h9) rfl dX5_comesMan_84 ?_
      refine lv_iload_n hx hb dX5_comesMan_87 rfl (lv_at hl 1 rfl) ?_
      refine lv_iconst (v := 3) hx hb dX5_comesMan_88 (by decide) ?_
      refine lv_iadd hx hb dX5_comesMan_89 ?_
      obtain ⟨c_14, hf⟩ := gi_e hf
      refine va_iald hx hb hK hP 12 0 cM_at12 rfl c_14 dX5_comesMan_90 ?_
      obtain ⟨c_15, hf⟩ := gi_e hf
      refine va_iast hx hb hK hP hD hS 8 0 cM_at8 rfl c_15 dX5_comesMan_91 (fun H locs hP hD hS => ?_)
      obtain ⟨h_16, eh_16, hf⟩ := nm_e hf
      rw [cM_su8, ← eh_16] at hP hD
      refine lv_aload_n hx hb dX5_comesMan_92 rfl (lv_at hl 0 rfl) ?_
      refine lv_dup hx hb dX5_comesMan_93 rfl ?_
      refine va_get (D := D) (ci := 5) (v := .int (h_16 16 1)) (C := RX5) (T := TX5) (N := 27) hx hb hts hw5 hown hK hP 0 cM_at0 rfl 9 (by decide) k65 (fun _ h9 => h9) rfl dX5_comesMan_94 ?_
      refine lv_iconst (v := 1) hx hb dX5_comesMan_97 (by decide) ?_
      refine lv_iadd hx hb dX5_comesMan_98 ?_
      refine va_put (D := D) (ci := 5) (v := .int ((h_16 16 1) + (1 : Int32))) (ty := .int) (C := RX5) (T := TX5) (N := 27) hx hb hts hw5 tyX5 tyX5_ok nmX5 hown hK hP hD hS 0 cM_at0 rfl 9 (by decide) k65 (fun _ h9 => h9) rfl (tyX5_ok 9 (by decide)) rfl rfl (Nat.le_of_ble_eq_true rfl) dX5_comesMan_99 (fun H locs hP hD hS => ?_)
      obtain ⟨h_17, eh_17, hf⟩ := nm_e hf
      rw [cM_sc0_9, ← eh_17] at hP hD
      refine lv_iconst (v := 1) hx hb dX5_comesMan_102 (by decide) ?_
      exact hend ((1 : Int32), h_17) H locs _ _ hf hP hS dX5_comesMan_103
    · replace hf := if_t c_4 hf
      refine lv_iconst (v := 0) hx hb dX5_comesMan_24 (by decide) ?_
      exact hend ((0 : Int32), M) H locs _ _ hf hP hS dX5_comesMan_25

def f_X5_moreSins (M : St) (p1 : Int32) : Option (Int32) := (gi p1 8 (if (M 4 (p1).toNatClampNeg) = (1 : Int32) then (some (0 : Int32)) else (gi p1 8 (if (M 4 (p1).toNatClampNeg) = (5 : Int32) then (some (0 : Int32)) else (gi p1 8 (if (M 4 (p1).toNatClampNeg) = (3 : Int32) then (some (2 : Int32)) else (some (1 : Int32))))))))
def rm_X5_moreSins : Room := { frames := 0, cells := 0, slots := 0, locals := 0 }
theorem hd_X5_moreSins : yX5_moreSins.cls = RX5 ∧ yX5_moreSins.cls ≠ "java/lang/invoke/MethodHandle" ∧ yX5_moreSins.cls ≠ "java/lang/invoke/VarHandle" ∧ (parseMethodDescriptor yX5_moreSins.desc).map (fun d => d.parameters.length) = some 1 := by decide +kernel
set_option maxRecDepth 100000 in
set_option maxHeartbeats 4000000 in
theorem c_X5_moreSins (l : Launch) (D : va_G) (cI : ClassId) (A : Nat → Nat) (M : St) (p1 : Int32) (r : Int32) (hf : f_X5_moreSins M p1 = some r) : Ct l yX5_moreSins wsX5_moreSins rm_X5_moreSins D cI (cM cI A M) (cM cI A M) [.ref (A 0), .int p1] (some (.int r)) := by
  unfold f_X5_moreSins at hf
  refine Ct.ofI (cc := cX5_moreSins) (maxL := 2) (by decide +kernel) rfl (Nat.le_of_ble_eq_true rfl) ?_
  intro p e s m args below meth c AA Q H locs ls hx hb hml hown hts hA hK hP hD hS hl hend0
  have hend : ∀ (r1 : Int32) (H : Heap) (locs : List Loc) (pc : Nat) (ls : Array Slot), some r1 = some r → va_P D vwCl (cM cI A M) H → va_S AA s.heap H locs → decode cX5_moreSins pc = .ok (.ireturn, 1) → W p l e rm_X5_moreSins s m args below meth c H locs 0 0 Q (F0 m pc ls [.int r1]) := by
    intro r1 H locs pc ls e1 hP hS hd; cases e1; exact hend0 H locs pc ls hP hS hd
  clear hend0
  have hw5 : ∀ w ∈ wsX50, w ∈ wsX5_moreSins := by decide +kernel
  have k22 := hts (.fieldLink RX5 22 "AnchorsForConfessionModel" "kind" "[I") (by decide +kernel)
  replace hl : lv_has ls 2 [(0, .ref (A 0)), (1, .int p1)] := hl
  refine lv_aload_n hx hb dX5_moreSins_0 rfl (lv_at hl 0 rfl) ?_
  refine va_get (D := D) (ci := 5) (v := .ref (A 5)) (C := RX5) (T := TX5) (N := 27) hx hb hts hw5 hown hK hP 0 cM_at0 rfl 4 (by decide) k22 (fun _ h9 => h9) rfl dX5_moreSins_1 ?_
  refine lv_iload_n hx hb dX5_moreSins_4 rfl (lv_at hl 1 rfl) ?_
  obtain ⟨c_1, hf⟩ := gi_e hf
  refine va_iald hx hb hK hP 5 0 cM_at5 rfl c_1 dX5_moreSins_5 ?_
  refine lv_iconst (v := 1) hx hb dX5_moreSins_6 (by decide) ?_
  refine lv_icmp_eq (tgt := 20) hx hb dX5_moreSins_7 (by decide) (fun c_2 => ?_) (fun c_2 => ?_)
  · replace hf := if_t c_2 hf
    refine lv_iconst (v := 0) hx hb dX5_moreSins_20 (by decide) ?_
    refine lv_goto (tgt := 39) hx hb dX5_moreSins_21 (by decide) ?_
    exact hend (0 : Int32) H locs _ _ hf hP hS dX5_moreSins_39
  · replace hf := if_f c_2 hf
    refine lv_aload_n hx hb dX5_moreSins_10 rfl (lv_at hl 0 rfl) ?_
    refine va_get (D := D) (ci := 5) (v := .ref (A 5)) (C := RX5) (T := TX5) (N := 27) hx hb hts hw5 hown hK hP 0 cM_at0 rfl 4 (by decide) k22 (fun _ h9 => h9) rfl dX5_moreSins_11 ?_
    refine lv_iload_n hx hb dX5_moreSins_14 rfl (lv_at hl 1 rfl) ?_
    obtain ⟨c_3, hf⟩ := gi_e hf
    refine va_iald hx hb hK hP 5 0 cM_at5 rfl c_3 dX5_moreSins_15 ?_
    refine lv_iconst (v := 5) hx hb dX5_moreSins_16 (by decide) ?_
    refine lv_icmp_ne (tgt := 24) hx hb dX5_moreSins_17 (by decide) (fun c_4 => ?_) (fun c_4 => ?_)
    · replace hf := if_f c_4 hf
      refine lv_aload_n hx hb dX5_moreSins_24 rfl (lv_at hl 0 rfl) ?_
      refine va_get (D := D) (ci := 5) (v := .ref (A 5)) (C := RX5) (T := TX5) (N := 27) hx hb hts hw5 hown hK hP 0 cM_at0 rfl 4 (by decide) k22 (fun _ h9 => h9) rfl dX5_moreSins_25 ?_
      refine lv_iload_n hx hb dX5_moreSins_28 rfl (lv_at hl 1 rfl) ?_
      obtain ⟨c_5, hf⟩ := gi_e hf
      refine va_iald hx hb hK hP 5 0 cM_at5 rfl c_5 dX5_moreSins_29 ?_
      refine lv_iconst (v := 3) hx hb dX5_moreSins_30 (by decide) ?_
      refine lv_icmp_ne (tgt := 38) hx hb dX5_moreSins_31 (by decide) (fun c_6 => ?_) (fun c_6 => ?_)
      · replace hf := if_f c_6 hf
        refine lv_iconst (v := 1) hx hb dX5_moreSins_38 (by decide) ?_
        exact hend (1 : Int32) H locs _ _ hf hP hS dX5_moreSins_39
      · replace hf := if_t c_6 hf
        refine lv_iconst (v := 2) hx hb dX5_moreSins_34 (by decide) ?_
        refine lv_goto (tgt := 39) hx hb dX5_moreSins_35 (by decide) ?_
        exact hend (2 : Int32) H locs _ _ hf hP hS dX5_moreSins_39
    · replace hf := if_t c_4 hf
      refine lv_iconst (v := 0) hx hb dX5_moreSins_20 (by decide) ?_
      refine lv_goto (tgt := 39) hx hb dX5_moreSins_21 (by decide) ?_
      exact hend (0 : Int32) H locs _ _ hf hP hS dX5_moreSins_39

def f_X5_goesTide (M : St) : Option (St) := (nm (su M 16 3 ((M 16 3) + (1 : Int32))) fun h_1 => (lp (fun (nx12 : (Int32 × St) → Option (St)) (q12 : Int32 × St) => (if (q12.2 16 1) ≤ q12.1 then (lp (fun (nx66 : (Int32 × St) → Option (St)) (q66 : Int32 × St) => (if (q66.2 16 0) ≤ q66.1 then (some q66.2) else (gi q66.1 5 (gi q66.1 5 (if (q66.2 3 (q66.1).toNatClampNeg) ≤ 0 then (gi q66.1 5 (nm (su q66.2 3 (q66.1).toNatClampNeg ((q66.2 3 (q66.1).toNatClampNeg) - (0 : Int32))) fun h_8 => (nm (q66.1 + (1 : Int32)) fun v_9 => (nx66 (v_9, h_8))))) else (gi q66.1 5 (nm (su q66.2 3 (q66.1).toNatClampNeg ((q66.2 3 (q66.1).toNatClampNeg) - (1 : Int32))) fun h_11 => (nm (q66.1 + (1 : Int32)) fun v_12 => (nx66 (v_12, h_11)))))))))) 1000 ((0 : Int32), q12.2)) else (gi q12.1 8 (gi (q12.2 7 (q12.1).toNatClampNeg) 5 (if (q12.2 3 ((q12.2 7 (q12.1).toNatClampNeg)).toNatClampNeg) ≤ 0 then (nm (q12.1 + (1 : Int32)) fun v_16 => (nx12 (v_16, q12.2))) else (gi q12.1 8 (bd (f_X5_moreSins q12.2 q12.1) fun a_18 => (bd (f_X5_held ((q12.2 6 (q12.1).toNatClampNeg) + a_18) (0 : Int32) (9 : Int32)) fun a_19 => (gi q12.1 8 (nm (su q12.2 6 (q12.1).toNatClampNeg a_19) fun h_21 => (nm (q12.1 + (1 : Int32)) fun v_22 => (nx12 (v_22, h_21))))))))))))) 1000 ((0 : Int32), h_1)))
def rm_X5_goesTide : Room := { frames := 1, cells := 0, slots := 0, locals := 22 }
theorem hd_X5_goesTide : yX5_goesTide.cls = RX5 ∧ yX5_goesTide.cls ≠ "java/lang/invoke/MethodHandle" ∧ yX5_goesTide.cls ≠ "java/lang/invoke/VarHandle" ∧ (parseMethodDescriptor yX5_goesTide.desc).map (fun d => d.parameters.length) = some 0 := by decide +kernel
set_option maxRecDepth 100000 in
set_option maxHeartbeats 4000000 in
theorem c_X5_goesTide (l : Launch) (D : va_G) (cI : ClassId) (A : Nat → Nat) (M : St) (r : St) (hf : f_X5_goesTide M = some r) : Ct l yX5_goesTide wsX5_goesTide rm_X5_goesTide D cI (cM cI A M) (cM cI A r) [.ref (A 0)] none := by
  unfold f_X5_goesTide at hf
  refine Ct.ofV (cc := cX5_goesTide) (maxL := 2) (by decide +kernel) rfl (Nat.le_of_ble_eq_true rfl) ?_
  intro p e s m args below meth c AA Q H locs ls hx hb hml hown hts hA hK hP hD hS hl hend0
  have hend : ∀ (r1 : St) (H : Heap) (locs : List Loc) (pc : Nat) (ls : Array Slot), some r1 = some r → va_P D vwCl (cM cI A r1) H → va_S AA s.heap H locs → decode cX5_goesTide pc = .ok (.return_, 1) → W p l e rm_X5_goesTide s m args below meth c H locs 0 0 Q (F0 m pc ls []) := by
    intro r1 H locs pc ls e1 hP hS hd; cases e1; exact hend0 H locs pc ls hP hS hd
  clear hend0
  have hw5 : ∀ w ∈ wsX50, w ∈ wsX5_goesTide := by decide +kernel
  have k19 := hts (.fieldLink RX5 19 "AnchorsForConfessionModel" "out" "[I") (by decide +kernel)
  have k28 := hts (.fieldLink RX5 28 "AnchorsForConfessionModel" "sins" "[I") (by decide +kernel)
  have k31 := hts (.fieldLink RX5 31 "AnchorsForConfessionModel" "aboard" "[I") (by decide +kernel)
  have k58 := hts (.fieldLink RX5 58 "AnchorsForConfessionModel" "ships" "I") (by decide +kernel)
  have k65 := hts (.fieldLink RX5 65 "AnchorsForConfessionModel" "men" "I") (by decide +kernel)
  have k110 := hts (.fieldLink RX5 110 "AnchorsForConfessionModel" "tide" "I") (by decide +kernel)
  replace hl : lv_has ls 2 [(0, .ref (A 0))] := hl
  refine lv_aload_n hx hb dX5_goesTide_0 rfl (lv_at hl 0 rfl) ?_
  refine lv_dup hx hb dX5_goesTide_1 rfl ?_
  refine va_get (D := D) (ci := 5) (v := .int (M 16 3)) (C := RX5) (T := TX5) (N := 27) hx hb hts hw5 hown hK hP 0 cM_at0 rfl 11 (by decide) k110 (fun _ h9 => h9) rfl dX5_goesTide_2 ?_
  refine lv_iconst (v := 1) hx hb dX5_goesTide_5 (by decide) ?_
  refine lv_iadd hx hb dX5_goesTide_6 ?_
  refine va_put (D := D) (ci := 5) (v := .int ((M 16 3) + (1 : Int32))) (ty := .int) (C := RX5) (T := TX5) (N := 27) hx hb hts hw5 tyX5 tyX5_ok nmX5 hown hK hP hD hS 0 cM_at0 rfl 11 (by decide) k110 (fun _ h9 => h9) rfl (tyX5_ok 11 (by decide)) rfl rfl (Nat.le_of_ble_eq_true rfl) dX5_goesTide_7 (fun H locs hP hD hS => ?_)
  obtain ⟨h_1, eh_1, hf⟩ := nm_e hf
  rw [cM_sc0_11, ← eh_1] at hP hD
  refine lv_iconst (v := 0) hx hb dX5_goesTide_10 (by decide) ?_
  refine lv_istore_n (lv' := [(1, .int (0 : Int32)), (0, .ref (A 0))]) hx hb dX5_goesTide_11 rfl hl (by decide) rfl (fun ls hl => ?_)
  refine lp_ind (P := fun (q12 : Int32 × St) => ∀ (H : Heap) (locs : List Loc) (ls : Array Slot), va_P D vwCl (cM cI A q12.2) H → va_D AA (cM cI A q12.2) → va_S AA s.heap H locs → lv_has ls 2 [(0, .ref (A 0)), (1, .int q12.1)] → W p l e rm_X5_goesTide s m args below meth c H locs 0 0 Q (F0 m 12 ls [])) hf ?_ H locs ls hP hD hS (lv_sub hl [1, 0] rfl)
  clear hf hP hD hS hl
  intro nx12 ih12 q12 hf H locs ls hP hD hS hl
  refine lv_iload_n hx hb dX5_goesTide_12 rfl (lv_at hl 1 rfl) ?_
  refine lv_aload_n hx hb dX5_goesTide_13 rfl (lv_at hl 0 rfl) ?_
  refine va_get (D := D) (ci := 5) (v := .int (q12.2 16 1)) (C := RX5) (T := TX5) (N := 27) hx hb hts hw5 hown hK hP 0 cM_at0 rfl 9 (by decide) k65 (fun _ h9 => h9) rfl dX5_goesTide_14 ?_
  refine lv_icmp_ge (tgt := 64) hx hb dX5_goesTide_17 (by decide) (fun c_2 => ?_) (fun c_2 => ?_)
  · replace hf := if_t c_2 hf
    refine lv_iconst (v := 0) hx hb dX5_goesTide_64 (by decide) ?_
    refine lv_istore_n (lv' := [(1, .int (0 : Int32)), (0, .ref (A 0))]) hx hb dX5_goesTide_65 rfl hl (by decide) rfl (fun ls hl => ?_)
    refine lp_ind (P := fun (q66 : Int32 × St) => ∀ (H : Heap) (locs : List Loc) (ls : Array Slot), va_P D vwCl (cM cI A q66.2) H → va_D AA (cM cI A q66.2) → va_S AA s.heap H locs → lv_has ls 2 [(0, .ref (A 0)), (1, .int q66.1)] → W p l e rm_X5_goesTide s m args below meth c H locs 0 0 Q (F0 m 66 ls [])) hf ?_ H locs ls hP hD hS (lv_sub hl [1, 0] rfl)
    clear hf hP hD hS hl
    intro nx66 ih66 q66 hf H locs ls hP hD hS hl
    refine lv_iload_n hx hb dX5_goesTide_66 rfl (lv_at hl 1 rfl) ?_
    refine lv_aload_n hx hb dX5_goesTide_67 rfl (lv_at hl 0 rfl) ?_
    refine va_get (D := D) (ci := 5) (v := .int (q66.2 16 0)) (C := RX5) (T := TX5) (N := 27) hx hb hts hw5 hown hK hP 0 cM_at0 rfl 8 (by decide) k58 (fun _ h9 => h9) rfl dX5_goesTide_68 ?_
    refine lv_icmp_ge (tgt := 103) hx hb dX5_goesTide_71 (by decide) (fun c_3 => ?_) (fun c_3 => ?_)
    · replace hf := if_t c_3 hf
      exact hend q66.2 H locs _ _ hf hP hS dX5_goesTide_103
    · replace hf := if_f c_3 hf
      refine lv_aload_n hx hb dX5_goesTide_74 rfl (lv_at hl 0 rfl) ?_
      refine va_get (D := D) (ci := 5) (v := .ref (A 4)) (C := RX5) (T := TX5) (N := 27) hx hb hts hw5 hown hK hP 0 cM_at0 rfl 3 (by decide) k19 (fun _ h9 => h9) rfl dX5_goesTide_75 ?_
      refine lv_iload_n hx hb dX5_goesTide_78 rfl (lv_at hl 1 rfl) ?_
      refine lv_dup2_11 hx hb dX5_goesTide_79 rfl rfl ?_
      obtain ⟨c_4, hf⟩ := gi_e hf
      refine va_iald hx hb hK hP 4 0 cM_at4 rfl c_4 dX5_goesTide_80 ?_
      refine lv_aload_n hx hb dX5_goesTide_81 rfl (lv_at hl 0 rfl) ?_
      refine va_get (D := D) (ci := 5) (v := .ref (A 4)) (C := RX5) (T := TX5) (N := 27) hx hb hts hw5 hown hK hP 0 cM_at0 rfl 3 (by decide) k19 (fun _ h9 => h9) rfl dX5_goesTide_82 ?_
      refine lv_iload_n hx hb dX5_goesTide_85 rfl (lv_at hl 1 rfl) ?_
      obtain ⟨c_5, hf⟩ := gi_e hf
      refine va_iald hx hb hK hP 4 0 cM_at4 rfl c_5 dX5_goesTide_86 ?_
      refine lv_if_le (tgt := 94) hx hb dX5_goesTide_87 (by decide) (fun c_6 => ?_) (fun c_6 => ?_)
      · replace hf := if_t c_6 hf
        refine lv_iconst (v := 0) hx hb dX5_goesTide_94 (by decide) ?_
        refine lv_isub hx hb dX5_goesTide_95 ?_
        obtain ⟨c_7, hf⟩ := gi_e hf
        refine va_iast hx hb hK hP hD hS 4 0 cM_at4 rfl c_7 dX5_goesTide_96 (fun H locs hP hD hS => ?_)
        obtain ⟨h_8, eh_8, hf⟩ := nm_e hf
        rw [cM_su4, ← eh_8] at hP hD
        obtain ⟨v_9, ev_9, hf⟩ := nm_e hf
        refine lv_iinc (v := v_9) (lv' := [(1, .int v_9), (0, .ref (A 0))]) hx hb dX5_goesTide_97 hl (k := 1) rfl (by rw [ev_9]; rfl) (by decide) rfl (fun ls hl => ?_)
        refine lv_goto (tgt := 66) hx hb dX5_goesTide_100 (by decide) ?_
        exact ih66 (v_9, h_8) hf H locs ls hP hD hS (lv_sub hl [1, 0] rfl)
      · replace hf := if_f c_6 hf
        refine lv_iconst (v := 1) hx hb dX5_goesTide_90 (by decide) ?_
        refine lv_goto (tgt := 95) hx hb dX5_goesTide_91 (by decide) ?_
        refine lv_isub hx hb dX5_goesTide_95 ?_
        obtain ⟨c_10, hf⟩ := gi_e hf
        refine va_iast hx hb hK hP hD hS 4 0 cM_at4 rfl c_10 dX5_goesTide_96 (fun H locs hP hD hS => ?_)
        obtain ⟨h_11, eh_11, hf⟩ := nm_e hf
        rw [cM_su4, ← eh_11] at hP hD
        obtain ⟨v_12, ev_12, hf⟩ := nm_e hf
        refine lv_iinc (v := v_12) (lv' := [(1, .int v_12), (0, .ref (A 0))]) hx hb dX5_goesTide_97 hl (k := 1) rfl (by rw [ev_12]; rfl) (by decide) rfl (fun ls hl => ?_)
        refine lv_goto (tgt := 66) hx hb dX5_goesTide_100 (by decide) ?_
        exact ih66 (v_12, h_11) hf H locs ls hP hD hS (lv_sub hl [1, 0] rfl)
  · replace hf := if_f c_2 hf
    refine lv_aload_n hx hb dX5_goesTide_20 rfl (lv_at hl 0 rfl) ?_
    refine va_get (D := D) (ci := 5) (v := .ref (A 4)) (C := RX5) (T := TX5) (N := 27) hx hb hts hw5 hown hK hP 0 cM_at0 rfl 3 (by decide) k19 (fun _ h9 => h9) rfl dX5_goesTide_21 ?_
    refine lv_aload_n hx hb dX5_goesTide_24 rfl (lv_at hl 0 rfl) ?_
    refine va_get (D := D) (ci := 5) (v := .ref (A 8)) (C := RX5) (T := TX5) (N := 27) hx hb hts hw5 hown hK hP 0 cM_at0 rfl 7 (by decide) k31 (fun _ h9 => h9) rfl dX5_goesTide_25 ?_
    refine lv_iload_n hx hb dX5_goesTide_28 rfl (lv_at hl 1 rfl) ?_
    obtain ⟨c_13, hf⟩ := gi_e hf
    refine va_iald hx hb hK hP 8 0 cM_at8 rfl c_13 dX5_goesTide_29 ?_
    obtain ⟨c_14, hf⟩ := gi_e hf
    refine va_iald hx hb hK hP 4 0 cM_at4 rfl c_14 dX5_goesTide_30 ?_
    refine lv_if_le (tgt := 58) hx hb dX5_goesTide_31 (by decide) (fun c_15 => ?_) (fun c_15 => ?_)
    · replace hf := if_t c_15 hf
      obtain ⟨v_16, ev_16, hf⟩ := nm_e hf
      refine lv_iinc (v := v_16) (lv' := [(1, .int v_16), (0, .ref (A 0))]) hx hb dX5_goesTide_58 hl (k := 1) rfl (by rw [ev_16]; rfl) (by decide) rfl (fun ls hl => ?_)
      refine lv_goto (tgt := 12) hx hb dX5_goesTide_61 (by decide) ?_
      exact ih12 (v_16, q12.2) hf H locs ls hP hD hS (lv_sub hl [1, 0] rfl)
    · replace hf := if_f c_15 hf
      refine lv_aload_n hx hb dX5_goesTide_34 rfl (lv_at hl 0 rfl) ?_
      refine va_get (D := D) (ci := 5) (v := .ref (A 7)) (C := RX5) (T := TX5) (N := 27) hx hb hts hw5 hown hK hP 0 cM_at0 rfl 6 (by decide) k28 (fun _ h9 => h9) rfl dX5_goesTide_35 ?_
      refine lv_iload_n hx hb dX5_goesTide_38 rfl (lv_at hl 1 rfl) ?_
      refine lv_aload_n hx hb dX5_goesTide_39 rfl (lv_at hl 0 rfl) ?_
      refine va_get (D := D) (ci := 5) (v := .ref (A 7)) (C := RX5) (T := TX5) (N := 27) hx hb hts hw5 hown hK hP 0 cM_at0 rfl 6 (by decide) k28 (fun _ h9 => h9) rfl dX5_goesTide_40 ?_
      refine lv_iload_n hx hb dX5_goesTide_43 rfl (lv_at hl 1 rfl) ?_
      obtain ⟨c_17, hf⟩ := gi_e hf
      refine va_iald hx hb hK hP 7 0 cM_at7 rfl c_17 dX5_goesTide_44 ?_
      refine lv_aload_n hx hb dX5_goesTide_45 rfl (lv_at hl 0 rfl) ?_
      refine lv_iload_n hx hb dX5_goesTide_46 rfl (lv_at hl 1 rfl) ?_
      obtain ⟨a_18, ha_18, hf⟩ := bd_e hf
      refine Ct.callV (As := [.int q12.1]) (rest := [.int (q12.2 6 (q12.1).toNatClampNeg), .int q12.1, .ref (A 7)]) (st1 := [.int a_18, .int (q12.2 6 (q12.1).toNatClampNeg), .int q12.1, .ref (A 7)]) (c_X5_moreSins l D cI A q12.2 q12.1 a_18 ha_18) hx hb hml hown hts (cwV 1 hts gX5_goesTide_X5_moreSins rfl rfl rfl hd_X5_moreSins ⟨Nat.le_of_ble_eq_true rfl, Nat.le_of_ble_eq_true rfl⟩) (va_recv hK hP (ci := 5) (q0 := 0) rfl cM_at0) (Ln.id rfl) hA hK hP hD hS rfl hl.1 rfl rfl (Nat.le_of_ble_eq_true rfl) dX5_goesTide_47 (fun H locs hP hD hS => ?_)
      refine lv_iadd hx hb dX5_goesTide_50 ?_
      refine lv_iconst (v := 0) hx hb dX5_goesTide_51 (by decide) ?_
      refine lv_bipush (v := 9) hx hb dX5_goesTide_52 (by decide +kernel) ?_
      obtain ⟨a_19, ha_19, hf⟩ := bd_e hf
      refine Ct.callS (As := [.int ((q12.2 6 (q12.1).toNatClampNeg) + a_18), .int (0 : Int32), .int (9 : Int32)]) (rest := [.int q12.1, .ref (A 7)]) (st1 := [.int a_19, .int q12.1, .ref (A 7)]) (c_X5_held l D cI  ((q12.2 6 (q12.1).toNatClampNeg) + a_18) (0 : Int32) (9 : Int32) a_19 ha_19) hx hb hml hown hts (va_cwS 3 hts gX5_goesTide_X5_held rfl rfl rfl hd_X5_held ⟨Nat.le_of_ble_eq_true rfl, Nat.le_of_ble_eq_true rfl⟩) Ln.nil hA hK hP hD hS rfl hl.1 rfl rfl (Nat.le_of_ble_eq_true rfl) dX5_goesTide_54 (fun H locs hP hD hS => ?_)
      obtain ⟨c_20, hf⟩ := gi_e hf
      refine va_iast hx hb hK hP hD hS 7 0 cM_at7 rfl c_20 dX5_goesTide_57 (fun H locs hP hD hS => ?_)
      obtain ⟨h_21, eh_21, hf⟩ := nm_e hf
      rw [cM_su7, ← eh_21] at hP hD
      obtain ⟨v_22, ev_22, hf⟩ := nm_e hf
      refine lv_iinc (v := v_22) (lv' := [(1, .int v_22), (0, .ref (A 0))]) hx hb dX5_goesTide_58 hl (k := 1) rfl (by rw [ev_22]; rfl) (by decide) rfl (fun ls hl => ?_)
      refine lv_goto (tgt := 12) hx hb dX5_goesTide_61 (by decide) ?_
      exact ih12 (v_22, h_21) hf H locs ls hP hD hS (lv_sub hl [1, 0] rfl)

def f_X5_goes (M : St) (p1 : Int32) : Option (St) := (lp (fun (nx2 : (Int32 × St) → Option (St)) (q2 : Int32 × St) => (if p1 ≤ q2.1 then (some q2.2) else (bd (f_X5_goesTide q2.2) fun a_2 => (nm (q2.1 + (1 : Int32)) fun v_3 => (nx2 (v_3, a_2)))))) 1000 ((0 : Int32), M))
def rm_X5_goes : Room := { frames := 2, cells := 0, slots := 0, locals := 43 }
theorem hd_X5_goes : yX5_goes.cls = RX5 ∧ yX5_goes.cls ≠ "java/lang/invoke/MethodHandle" ∧ yX5_goes.cls ≠ "java/lang/invoke/VarHandle" ∧ (parseMethodDescriptor yX5_goes.desc).map (fun d => d.parameters.length) = some 1 := by decide +kernel
set_option maxRecDepth 100000 in
set_option maxHeartbeats 4000000 in
theorem c_X5_goes (l : Launch) (D : va_G) (cI : ClassId) (A : Nat → Nat) (M : St) (p1 : Int32) (r : St) (hf : f_X5_goes M p1 = some r) : Ct l yX5_goes wsX5_goes rm_X5_goes D cI (cM cI A M) (cM cI A r) [.ref (A 0), .int p1] none := by
  unfold f_X5_goes at hf
  refine Ct.ofV (cc := cX5_goes) (maxL := 3) (by decide +kernel) rfl (Nat.le_of_ble_eq_true rfl) ?_
  intro p e s m args below meth c AA Q H locs ls hx hb hml hown hts hA hK hP hD hS hl hend0
  have hend : ∀ (r1 : St) (H : Heap) (locs : List Loc) (pc : Nat) (ls : Array Slot), some r1 = some r → va_P D vwCl (cM cI A r1) H → va_S AA s.heap H locs → decode cX5_goes pc = .ok (.return_, 1) → W p l e rm_X5_goes s m args below meth c H locs 0 0 Q (F0 m pc ls []) := by
    intro r1 H locs pc ls e1 hP hS hd; cases e1; exact hend0 H locs pc ls hP hS hd
  clear hend0
  replace hl : lv_has ls 3 [(0, .ref (A 0)), (1, .int p1)] := hl
  refine lv_iconst (v := 0) hx hb dX5_goes_0 (by decide) ?_
  refine lv_istore_n (lv' := [(2, .int (0 : Int32)), (0, .ref (A 0)), (1, .int p1)]) hx hb dX5_goes_1 rfl hl (by decide) rfl (fun ls hl => ?_)
  refine lp_ind (P := fun (q2 : Int32 × St) => ∀ (H : Heap) (locs : List Loc) (ls : Array Slot), va_P D vwCl (cM cI A q2.2) H → va_D AA (cM cI A q2.2) → va_S AA s.heap H locs → lv_has ls 3 [(0, .ref (A 0)), (1, .int p1), (2, .int q2.1)] → W p l e rm_X5_goes s m args below meth c H locs 0 0 Q (F0 m 2 ls [])) hf ?_ H locs ls hP hD hS (lv_sub hl [1, 2, 0] rfl)
  clear hf hP hD hS hl
  intro nx2 ih2 q2 hf H locs ls hP hD hS hl
  refine lv_iload_n hx hb dX5_goes_2 rfl (lv_at hl 2 rfl) ?_
  refine lv_iload_n hx hb dX5_goes_3 rfl (lv_at hl 1 rfl) ?_
  refine lv_icmp_ge (tgt := 17) hx hb dX5_goes_4 (by decide) (fun c_1 => ?_) (fun c_1 => ?_)
  · replace hf := if_t c_1 hf
    exact hend q2.2 H locs _ _ hf hP hS dX5_goes_17
  · replace hf := if_f c_1 hf
    refine lv_aload_n hx hb dX5_goes_7 rfl (lv_at hl 0 rfl) ?_
    obtain ⟨a_2, ha_2, hf⟩ := bd_e hf
    refine Ct.callV (As := []) (rest := []) (st1 := []) (c_X5_goesTide l D cI A q2.2 a_2 ha_2) hx hb hml hown hts (cwV 0 hts gX5_goes_X5_goesTide rfl rfl rfl hd_X5_goesTide ⟨Nat.le_of_ble_eq_true rfl, Nat.le_of_ble_eq_true rfl⟩) (va_recv hK hP (ci := 5) (q0 := 0) rfl cM_at0) (Ln.id rfl) hA hK hP hD hS rfl hl.1 rfl rfl (Nat.le_of_ble_eq_true rfl) dX5_goes_8 (fun H locs hP hD hS => ?_)
    replace hP : va_P D vwCl (cM cI A a_2) H := hP
    replace hD : va_D AA (cM cI A a_2) := hD
    obtain ⟨v_3, ev_3, hf⟩ := nm_e hf
    refine lv_iinc (v := v_3) (lv' := [(2, .int v_3), (0, .ref (A 0)), (1, .int p1)]) hx hb dX5_goes_11 hl (k := 2) rfl (by rw [ev_3]; rfl) (by decide) rfl (fun ls hl => ?_)
    refine lv_goto (tgt := 2) hx hb dX5_goes_14 (by decide) ?_
    exact ih2 (v_3, a_2) hf H locs ls hP hD hS (lv_sub hl [1, 2, 0] rfl)

def f_X5_comesTides (M : St) (p1 : Int32) : Option (Int32 × St) := fzp (bd (f_X5_isIn p1 (1 : Int32) (60 : Int32)) fun a_1 => (if a_1 = 0 then (some ((0 : Int32), M)) else (if ((M 16 3) + p1) ≤ (999 : Int32) then (bd (f_X5_goes M p1) fun a_4 => (some ((1 : Int32), a_4))) else (some ((0 : Int32), M)))))
def rm_X5_comesTides : Room := { frames := 3, cells := 0, slots := 0, locals := 65 }
theorem hd_X5_comesTides : yX5_comesTides.cls = RX5 ∧ yX5_comesTides.cls ≠ "java/lang/invoke/MethodHandle" ∧ yX5_comesTides.cls ≠ "java/lang/invoke/VarHandle" ∧ (parseMethodDescriptor yX5_comesTides.desc).map (fun d => d.parameters.length) = some 1 := by decide +kernel
set_option maxRecDepth 100000 in
set_option maxHeartbeats 4000000 in
theorem c_X5_comesTides (l : Launch) (D : va_G) (cI : ClassId) (A : Nat → Nat) (M : St) (p1 : Int32) (r : Int32 × St) (hf : f_X5_comesTides M p1 = some r) : Ct l yX5_comesTides wsX5_comesTides rm_X5_comesTides D cI (cM cI A M) (cM cI A r.2) [.ref (A 0), .int p1] (some (.int r.1)) := by
  unfold f_X5_comesTides at hf
  obtain ⟨hz, hf⟩ := fzp_e hf
  refine Ct.ofZ hz (cc := cX5_comesTides) (maxL := 2) (by decide +kernel) rfl (Nat.le_of_ble_eq_true rfl) ?_
  intro p e s m args below meth c AA Q H locs ls hx hb hml hown hts hA hK hP hD hS hl hend0
  have hend : ∀ (r1 : Int32 × St) (H : Heap) (locs : List Loc) (pc : Nat) (ls : Array Slot), some r1 = some r → va_P D vwCl (cM cI A r1.2) H → va_S AA s.heap H locs → decode cX5_comesTides pc = .ok (.ireturn, 1) → W p l e rm_X5_comesTides s m args below meth c H locs 0 0 Q (F0 m pc ls [.int r1.1]) := by
    intro r1 H locs pc ls e1 hP hS hd; cases e1; exact hend0 H locs pc ls hP hS hd
  clear hend0
  have hw5 : ∀ w ∈ wsX50, w ∈ wsX5_comesTides := by decide +kernel
  have k110 := hts (.fieldLink RX5 110 "AnchorsForConfessionModel" "tide" "I") (by decide +kernel)
  replace hl : lv_has ls 2 [(0, .ref (A 0)), (1, .int p1)] := hl
  refine lv_iload_n hx hb dX5_comesTides_0 rfl (lv_at hl 1 rfl) ?_
  refine lv_iconst (v := 1) hx hb dX5_comesTides_1 (by decide) ?_
  refine lv_bipush (v := 60) hx hb dX5_comesTides_2 (by decide +kernel) ?_
  obtain ⟨a_1, ha_1, hf⟩ := bd_e hf
  refine Ct.callS (As := [.int p1, .int (1 : Int32), .int (60 : Int32)]) (rest := []) (st1 := [.int a_1]) (c_X5_isIn l D cI  p1 (1 : Int32) (60 : Int32) a_1 ha_1) hx hb hml hown hts (va_cwS 3 hts gX5_comesTides_X5_isIn rfl rfl rfl hd_X5_isIn ⟨Nat.le_of_ble_eq_true rfl, Nat.le_of_ble_eq_true rfl⟩) Ln.nil hA hK hP hD hS rfl hl.1 rfl rfl (Nat.le_of_ble_eq_true rfl) dX5_comesTides_4 (fun H locs hP hD hS => ?_)
  refine lv_if_eq (tgt := 22) hx hb dX5_comesTides_7 (by decide) (fun c_2 => ?_) (fun c_2 => ?_)
  · replace hf := if_t c_2 hf
    refine lv_iconst (v := 0) hx hb dX5_comesTides_22 (by decide) ?_
    exact hend ((0 : Int32), M) H locs _ _ hf hP hS dX5_comesTides_23
  · replace hf := if_f c_2 hf
    refine lv_aload_n hx hb dX5_comesTides_10 rfl (lv_at hl 0 rfl) ?_
    refine va_get (D := D) (ci := 5) (v := .int (M 16 3)) (C := RX5) (T := TX5) (N := 27) hx hb hts hw5 hown hK hP 0 cM_at0 rfl 11 (by decide) k110 (fun _ h9 => h9) rfl dX5_comesTides_11 ?_
    refine lv_iload_n hx hb dX5_comesTides_14 rfl (lv_at hl 1 rfl) ?_
    refine lv_iadd hx hb dX5_comesTides_15 ?_
    refine lv_sipush (v := 999) hx hb dX5_comesTides_16 (by decide +kernel) ?_
    refine lv_icmp_le (tgt := 24) hx hb dX5_comesTides_19 (by decide) (fun c_3 => ?_) (fun c_3 => ?_)
    · replace hf := if_t c_3 hf
      refine lv_aload_n hx hb dX5_comesTides_24 rfl (lv_at hl 0 rfl) ?_
      refine lv_iload_n hx hb dX5_comesTides_25 rfl (lv_at hl 1 rfl) ?_
      obtain ⟨a_4, ha_4, hf⟩ := bd_e hf
      refine Ct.callV (As := [.int p1]) (rest := []) (st1 := []) (c_X5_goes l D cI A M p1 a_4 ha_4) hx hb hml hown hts (cwV 1 hts gX5_comesTides_X5_goes rfl rfl rfl hd_X5_goes ⟨Nat.le_of_ble_eq_true rfl, Nat.le_of_ble_eq_true rfl⟩) (va_recv hK hP (ci := 5) (q0 := 0) rfl cM_at0) (Ln.id rfl) hA hK hP hD hS rfl hl.1 rfl rfl (Nat.le_of_ble_eq_true rfl) dX5_comesTides_26 (fun H locs hP hD hS => ?_)
      replace hP : va_P D vwCl (cM cI A a_4) H := hP
      replace hD : va_D AA (cM cI A a_4) := hD
      refine lv_iconst (v := 1) hx hb dX5_comesTides_29 (by decide) ?_
      exact hend ((1 : Int32), a_4) H locs _ _ hf hP hS dX5_comesTides_30
    · replace hf := if_f c_3 hf
      refine lv_iconst (v := 0) hx hb dX5_comesTides_22 (by decide) ?_
      exact hend ((0 : Int32), M) H locs _ _ hf hP hS dX5_comesTides_23

def f_X5_canTell (M : St) (p1 : Int32) : Option (Int32) := fz (bd (f_X5_isMan M p1) fun a_1 => (if a_1 = 0 then (some (0 : Int32)) else (gi p1 8 (if (M 6 (p1).toNatClampNeg) ≤ 0 then (some (0 : Int32)) else (gi p1 8 (gi (M 7 (p1).toNatClampNeg) 5 (if (M 3 ((M 7 (p1).toNatClampNeg)).toNatClampNeg) = 0 then (some (1 : Int32)) else (some (0 : Int32)))))))))
def rm_X5_canTell : Room := { frames := 1, cells := 0, slots := 0, locals := 21 }
theorem hd_X5_canTell : yX5_canTell.cls = RX5 ∧ yX5_canTell.cls ≠ "java/lang/invoke/MethodHandle" ∧ yX5_canTell.cls ≠ "java/lang/invoke/VarHandle" ∧ (parseMethodDescriptor yX5_canTell.desc).map (fun d => d.parameters.length) = some 1 := by decide +kernel
set_option maxRecDepth 100000 in
set_option maxHeartbeats 4000000 in
theorem c_X5_canTell (l : Launch) (D : va_G) (cI : ClassId) (A : Nat → Nat) (M : St) (p1 : Int32) (r : Int32) (hf : f_X5_canTell M p1 = some r) : Ct l yX5_canTell wsX5_canTell rm_X5_canTell D cI (cM cI A M) (cM cI A M) [.ref (A 0), .int p1] (some (.int r)) := by
  unfold f_X5_canTell at hf
  obtain ⟨hz, hf⟩ := fz_e hf
  refine Ct.ofZ hz (cc := cX5_canTell) (maxL := 2) (by decide +kernel) rfl (Nat.le_of_ble_eq_true rfl) ?_
  intro p e s m args below meth c AA Q H locs ls hx hb hml hown hts hA hK hP hD hS hl hend0
  have hend : ∀ (r1 : Int32) (H : Heap) (locs : List Loc) (pc : Nat) (ls : Array Slot), some r1 = some r → va_P D vwCl (cM cI A M) H → va_S AA s.heap H locs → decode cX5_canTell pc = .ok (.ireturn, 1) → W p l e rm_X5_canTell s m args below meth c H locs 0 0 Q (F0 m pc ls [.int r1]) := by
    intro r1 H locs pc ls e1 hP hS hd; cases e1; exact hend0 H locs pc ls hP hS hd
  clear hend0
  have hw5 : ∀ w ∈ wsX50, w ∈ wsX5_canTell := by decide +kernel
  have k19 := hts (.fieldLink RX5 19 "AnchorsForConfessionModel" "out" "[I") (by decide +kernel)
  have k28 := hts (.fieldLink RX5 28 "AnchorsForConfessionModel" "sins" "[I") (by decide +kernel)
  have k31 := hts (.fieldLink RX5 31 "AnchorsForConfessionModel" "aboard" "[I") (by decide +kernel)
  replace hl : lv_has ls 2 [(0, .ref (A 0)), (1, .int p1)] := hl
  refine lv_aload_n hx hb dX5_canTell_0 rfl (lv_at hl 0 rfl) ?_
  refine lv_iload_n hx hb dX5_canTell_1 rfl (lv_at hl 1 rfl) ?_
  obtain ⟨a_1, ha_1, hf⟩ := bd_e hf
  refine Ct.callV (As := [.int p1]) (rest := []) (st1 := [.int a_1]) (c_X5_isMan l D cI A M p1 a_1 ha_1) hx hb hml hown hts (cwV 1 hts gX5_canTell_X5_isMan rfl rfl rfl hd_X5_isMan ⟨Nat.le_of_ble_eq_true rfl, Nat.le_of_ble_eq_true rfl⟩) (va_recv hK hP (ci := 5) (q0 := 0) rfl cM_at0) (Ln.id rfl) hA hK hP hD hS rfl hl.1 rfl rfl (Nat.le_of_ble_eq_true rfl) dX5_canTell_2 (fun H locs hP hD hS => ?_)
  refine lv_if_eq (tgt := 35) hx hb dX5_canTell_5 (by decide) (fun c_2 => ?_) (fun c_2 => ?_)
  · replace hf := if_t c_2 hf
    refine lv_iconst (v := 0) hx hb dX5_canTell_35 (by decide) ?_
    exact hend (0 : Int32) H locs _ _ hf hP hS dX5_canTell_36
  · replace hf := if_f c_2 hf
    refine lv_aload_n hx hb dX5_canTell_8 rfl (lv_at hl 0 rfl) ?_
    refine va_get (D := D) (ci := 5) (v := .ref (A 7)) (C := RX5) (T := TX5) (N := 27) hx hb hts hw5 hown hK hP 0 cM_at0 rfl 6 (by decide) k28 (fun _ h9 => h9) rfl dX5_canTell_9 ?_
    refine lv_iload_n hx hb dX5_canTell_12 rfl (lv_at hl 1 rfl) ?_
    obtain ⟨c_3, hf⟩ := gi_e hf
    refine va_iald hx hb hK hP 7 0 cM_at7 rfl c_3 dX5_canTell_13 ?_
    refine lv_if_le (tgt := 35) hx hb dX5_canTell_14 (by decide) (fun c_4 => ?_) (fun c_4 => ?_)
    · replace hf := if_t c_4 hf
      refine lv_iconst (v := 0) hx hb dX5_canTell_35 (by decide) ?_
      exact hend (0 : Int32) H locs _ _ hf hP hS dX5_canTell_36
    · replace hf := if_f c_4 hf
      refine lv_aload_n hx hb dX5_canTell_17 rfl (lv_at hl 0 rfl) ?_
      refine va_get (D := D) (ci := 5) (v := .ref (A 4)) (C := RX5) (T := TX5) (N := 27) hx hb hts hw5 hown hK hP 0 cM_at0 rfl 3 (by decide) k19 (fun _ h9 => h9) rfl dX5_canTell_18 ?_
      refine lv_aload_n hx hb dX5_canTell_21 rfl (lv_at hl 0 rfl) ?_
      refine va_get (D := D) (ci := 5) (v := .ref (A 8)) (C := RX5) (T := TX5) (N := 27) hx hb hts hw5 hown hK hP 0 cM_at0 rfl 7 (by decide) k31 (fun _ h9 => h9) rfl dX5_canTell_22 ?_
      refine lv_iload_n hx hb dX5_canTell_25 rfl (lv_at hl 1 rfl) ?_
      obtain ⟨c_5, hf⟩ := gi_e hf
      refine va_iald hx hb hK hP 8 0 cM_at8 rfl c_5 dX5_canTell_26 ?_
      obtain ⟨c_6, hf⟩ := gi_e hf
      refine va_iald hx hb hK hP 4 0 cM_at4 rfl c_6 dX5_canTell_27 ?_
      refine lv_if_ne (tgt := 35) hx hb dX5_canTell_28 (by decide) (fun c_7 => ?_) (fun c_7 => ?_)
      · replace hf := if_f c_7 hf
        refine lv_iconst (v := 0) hx hb dX5_canTell_35 (by decide) ?_
        exact hend (0 : Int32) H locs _ _ hf hP hS dX5_canTell_36
      · replace hf := if_t c_7 hf
        refine lv_iconst (v := 1) hx hb dX5_canTell_31 (by decide) ?_
        refine lv_goto (tgt := 36) hx hb dX5_canTell_32 (by decide) ?_
        exact hend (1 : Int32) H locs _ _ hf hP hS dX5_canTell_36

def f_X5_worthOn (M : St) (p1 : Int32) (p2 : Int32) : Option (Int32) := (gi p1 8 (nm ((M 5 (p1).toNatClampNeg) + (1 : Int32)) fun v_2 => (if (p2 - p2 / (2 : Int32) * (2 : Int32)) = (1 : Int32) then (nm ((2 : Int32) * v_2) fun v_14 => (gi p1 8 (if (M 4 (p1).toNatClampNeg) = 1 then (some (0 : Int32)) else (if (M 4 (p1).toNatClampNeg) = 2 then (some v_14) else (if (M 4 (p1).toNatClampNeg) = 3 then (if (v_2 / (2 : Int32)) ≤ (1 : Int32) then (some (1 : Int32)) else (some (v_2 / (2 : Int32)))) else (if (M 4 (p1).toNatClampNeg) = 4 then (some (v_14 + (3 : Int32))) else (if (M 4 (p1).toNatClampNeg) = 5 then (some (0 : Int32)) else (some v_2)))))))) else (gi p1 8 (if (M 4 (p1).toNatClampNeg) = 1 then (some (0 : Int32)) else (if (M 4 (p1).toNatClampNeg) = 2 then (some v_2) else (if (M 4 (p1).toNatClampNeg) = 3 then (if (v_2 / (2 : Int32)) ≤ (1 : Int32) then (some (1 : Int32)) else (some (v_2 / (2 : Int32)))) else (if (M 4 (p1).toNatClampNeg) = 4 then (some (v_2 + (3 : Int32))) else (if (M 4 (p1).toNatClampNeg) = 5 then (some (0 : Int32)) else (some v_2))))))))))
def rm_X5_worthOn : Room := { frames := 0, cells := 0, slots := 0, locals := 0 }
theorem hd_X5_worthOn : yX5_worthOn.cls = RX5 ∧ yX5_worthOn.cls ≠ "java/lang/invoke/MethodHandle" ∧ yX5_worthOn.cls ≠ "java/lang/invoke/VarHandle" ∧ (parseMethodDescriptor yX5_worthOn.desc).map (fun d => d.parameters.length) = some 2 := by decide +kernel
set_option maxRecDepth 100000 in
set_option maxHeartbeats 4000000 in
theorem c_X5_worthOn (l : Launch) (D : va_G) (cI : ClassId) (A : Nat → Nat) (M : St) (p1 : Int32) (p2 : Int32) (r : Int32) (hf : f_X5_worthOn M p1 p2 = some r) : Ct l yX5_worthOn wsX5_worthOn rm_X5_worthOn D cI (cM cI A M) (cM cI A M) [.ref (A 0), .int p1, .int p2] (some (.int r)) := by
  unfold f_X5_worthOn at hf
  refine Ct.ofI (cc := cX5_worthOn) (maxL := 5) (by decide +kernel) rfl (Nat.le_of_ble_eq_true rfl) ?_
  intro p e s m args below meth c AA Q H locs ls hx hb hml hown hts hA hK hP hD hS hl hend0
  have hend : ∀ (r1 : Int32) (H : Heap) (locs : List Loc) (pc : Nat) (ls : Array Slot), some r1 = some r → va_P D vwCl (cM cI A M) H → va_S AA s.heap H locs → decode cX5_worthOn pc = .ok (.ireturn, 1) → W p l e rm_X5_worthOn s m args below meth c H locs 0 0 Q (F0 m pc ls [.int r1]) := by
    intro r1 H locs pc ls e1 hP hS hd; cases e1; exact hend0 H locs pc ls hP hS hd
  clear hend0
  have hw5 : ∀ w ∈ wsX50, w ∈ wsX5_worthOn := by decide +kernel
  have k22 := hts (.fieldLink RX5 22 "AnchorsForConfessionModel" "kind" "[I") (by decide +kernel)
  have k25 := hts (.fieldLink RX5 25 "AnchorsForConfessionModel" "figure" "[I") (by decide +kernel)
  replace hl : lv_has ls 5 [(0, .ref (A 0)), (1, .int p1), (2, .int p2)] := hl
  refine lv_aload_n hx hb dX5_worthOn_0 rfl (lv_at hl 0 rfl) ?_
  refine va_get (D := D) (ci := 5) (v := .ref (A 6)) (C := RX5) (T := TX5) (N := 27) hx hb hts hw5 hown hK hP 0 cM_at0 rfl 5 (by decide) k25 (fun _ h9 => h9) rfl dX5_worthOn_1 ?_
  refine lv_iload_n hx hb dX5_worthOn_4 rfl (lv_at hl 1 rfl) ?_
  obtain ⟨c_1, hf⟩ := gi_e hf
  refine va_iald hx hb hK hP 6 0 cM_at6 rfl c_1 dX5_worthOn_5 ?_
  refine lv_iconst (v := 1) hx hb dX5_worthOn_6 (by decide) ?_
  refine lv_iadd hx hb dX5_worthOn_7 ?_
  refine lv_topi (fun v_2 ev_2 => ?_)
  replace hf := nm_at ev_2 hf
  refine lv_istore_n (lv' := [(3, .int v_2), (0, .ref (A 0)), (1, .int p1), (2, .int p2)]) hx hb dX5_worthOn_8 rfl hl (by decide) rfl (fun ls hl => ?_)
  refine lv_iload_n hx hb dX5_worthOn_9 rfl (lv_at hl 3 rfl) ?_
  refine lv_iconst (v := 2) hx hb dX5_worthOn_10 (by decide) ?_
  refine lv_irem hx hb dX5_worthOn_11 (by decide) ?_
  refine lv_iconst (v := 1) hx hb dX5_worthOn_12 (by decide) ?_
  refine lv_icmp_ne (tgt := 22) hx hb dX5_worthOn_13 (by decide) (fun c_4 => ?_) (fun c_4 => ?_)
  · replace hf := if_f c_4 hf
    refine lv_iload_n hx hb dX5_worthOn_22 rfl (lv_at hl 0 rfl) ?_
    refine lv_istore (lv' := [(4, .int v_2), (3, .int v_2), (0, .ref (A 0)), (1, .int p1), (2, .int p2)]) hx hb dX5_worthOn_23 hl (by decide) rfl (fun ls hl => ?_)
    refine lv_aload_n hx hb dX5_worthOn_25 rfl (lv_at hl 2 rfl) ?_
    refine va_get (D := D) (ci := 5) (v := .ref (A 5)) (C := RX5) (T := TX5) (N := 27) hx hb hts hw5 hown hK hP 0 cM_at0 rfl 4 (by decide) k22 (fun _ h9 => h9) rfl dX5_worthOn_26 ?_
    refine lv_iload_n hx hb dX5_worthOn_29 rfl (lv_at hl 3 rfl) ?_
    obtain ⟨c_5, hf⟩ := gi_e hf
    refine va_iald hx hb hK hP 5 0 cM_at5 rfl c_5 dX5_worthOn_30 ?_
    by_cases c_6 : (M 4 (p1).toNatClampNeg) = 1
    · replace hf := if_t c_6 hf
      refine lv_tableIn (off := 33) (tgt := 64) hx hb dX5_worthOn_31 (by rw [c_6]; decide +kernel) (by rw [c_6]; decide +kernel) (by rw [c_6]; decide +kernel) (by decide) ?_
      refine lv_iconst (v := 0) hx hb dX5_worthOn_64 (by decide) ?_
      exact hend (0 : Int32) H locs _ _ hf hP hS dX5_worthOn_65
    · replace hf := if_f c_6 hf
      by_cases c_7 : (M 4 (p1).toNatClampNeg) = 2
      · replace hf := if_t c_7 hf
        refine lv_tableIn (off := 35) (tgt := 66) hx hb dX5_worthOn_31 (by rw [c_7]; decide +kernel) (by rw [c_7]; decide +kernel) (by rw [c_7]; decide +kernel) (by decide) ?_
        refine lv_iload hx hb dX5_worthOn_66 (lv_at hl 0 rfl) ?_
        exact hend v_2 H locs _ _ hf hP hS dX5_worthOn_68
      · replace hf := if_f c_7 hf
        by_cases c_8 : (M 4 (p1).toNatClampNeg) = 3
        · replace hf := if_t c_8 hf
          refine lv_tableIn (off := 38) (tgt := 69) hx hb dX5_worthOn_31 (by rw [c_8]; decide +kernel) (by rw [c_8]; decide +kernel) (by rw [c_8]; decide +kernel) (by decide) ?_
          refine lv_iload_n hx hb dX5_worthOn_69 rfl (lv_at hl 1 rfl) ?_
          refine lv_iconst (v := 2) hx hb dX5_worthOn_70 (by decide) ?_
          refine lv_idiv hx hb dX5_worthOn_71 (by decide) ?_
          refine lv_iconst (v := 1) hx hb dX5_worthOn_72 (by decide) ?_
          refine lv_icmp_le (tgt := 82) hx hb dX5_worthOn_73 (by decide) (fun c_10 => ?_) (fun c_10 => ?_)
          · replace hf := if_t c_10 hf
            refine lv_iconst (v := 1) hx hb dX5_worthOn_82 (by decide) ?_
            exact hend (1 : Int32) H locs _ _ hf hP hS dX5_worthOn_83
          · replace hf := if_f c_10 hf
            refine lv_iload_n hx hb dX5_worthOn_76 rfl (lv_at hl 1 rfl) ?_
            refine lv_iconst (v := 2) hx hb dX5_worthOn_77 (by decide) ?_
            refine lv_idiv hx hb dX5_worthOn_78 (by decide) ?_
            refine lv_goto (tgt := 83) hx hb dX5_worthOn_79 (by decide) ?_
            exact hend (v_2 / (2 : Int32)) H locs _ _ hf hP hS dX5_worthOn_83
        · replace hf := if_f c_8 hf
          by_cases c_12 : (M 4 (p1).toNatClampNeg) = 4
          · replace hf := if_t c_12 hf
            refine lv_tableIn (off := 53) (tgt := 84) hx hb dX5_worthOn_31 (by rw [c_12]; decide +kernel) (by rw [c_12]; decide +kernel) (by rw [c_12]; decide +kernel) (by decide) ?_
            refine lv_iload hx hb dX5_worthOn_84 (lv_at hl 0 rfl) ?_
            refine lv_iconst (v := 3) hx hb dX5_worthOn_86 (by decide) ?_
            refine lv_iadd hx hb dX5_worthOn_87 ?_
            exact hend (v_2 + (3 : Int32)) H locs _ _ hf hP hS dX5_worthOn_88
          · replace hf := if_f c_12 hf
            by_cases c_13 : (M 4 (p1).toNatClampNeg) = 5
            · replace hf := if_t c_13 hf
              refine lv_tableIn (off := 33) (tgt := 64) hx hb dX5_worthOn_31 (by rw [c_13]; decide +kernel) (by rw [c_13]; decide +kernel) (by rw [c_13]; decide +kernel) (by decide) ?_
              refine lv_iconst (v := 0) hx hb dX5_worthOn_64 (by decide) ?_
              exact hend (0 : Int32) H locs _ _ hf hP hS dX5_worthOn_65
            · replace hf := if_f c_13 hf
              have ht : ((M 4 (p1).toNatClampNeg)).toInt < 1 ∨ 5 < ((M 4 (p1).toNatClampNeg)).toInt := by
                have t0 := lv_neT (a := 1) c_6 (by decide +kernel)
                have t1 := lv_neT (a := 2) c_7 (by decide +kernel)
                have t2 := lv_neT (a := 3) c_8 (by decide +kernel)
                have t3 := lv_neT (a := 4) c_12 (by decide +kernel)
                have t4 := lv_neT (a := 5) c_13 (by decide +kernel)
                omega
              refine lv_tableOut (tgt := 89) hx hb dX5_worthOn_31 ht (by decide) ?_
              refine lv_iload_n hx hb dX5_worthOn_89 rfl (lv_at hl 1 rfl) ?_
              exact hend v_2 H locs _ _ hf hP hS dX5_worthOn_90
  · replace hf := if_t c_4 hf
    refine lv_iconst (v := 2) hx hb dX5_worthOn_16 (by decide) ?_
    refine lv_iload_n hx hb dX5_worthOn_17 rfl (lv_at hl 0 rfl) ?_
    refine lv_imul hx hb dX5_worthOn_18 ?_
    refine lv_goto (tgt := 23) hx hb dX5_worthOn_19 (by decide) ?_
    refine lv_topi (fun v_14 ev_14 => ?_)
    replace hf := nm_at ev_14 hf
    refine lv_istore (lv' := [(4, .int v_14), (3, .int v_2), (0, .ref (A 0)), (1, .int p1), (2, .int p2)]) hx hb dX5_worthOn_23 hl (by decide) rfl (fun ls hl => ?_)
    refine lv_aload_n hx hb dX5_worthOn_25 rfl (lv_at hl 2 rfl) ?_
    refine va_get (D := D) (ci := 5) (v := .ref (A 5)) (C := RX5) (T := TX5) (N := 27) hx hb hts hw5 hown hK hP 0 cM_at0 rfl 4 (by decide) k22 (fun _ h9 => h9) rfl dX5_worthOn_26 ?_
    refine lv_iload_n hx hb dX5_worthOn_29 rfl (lv_at hl 3 rfl) ?_
    obtain ⟨c_15, hf⟩ := gi_e hf
    refine va_iald hx hb hK hP 5 0 cM_at5 rfl c_15 dX5_worthOn_30 ?_
    by_cases c_16 : (M 4 (p1).toNatClampNeg) = 1
    · replace hf := if_t c_16 hf
      refine lv_tableIn (off := 33) (tgt := 64) hx hb dX5_worthOn_31 (by rw [c_16]; decide +kernel) (by rw [c_16]; decide +kernel) (by rw [c_16]; decide +kernel) (by decide) ?_
      refine lv_iconst (v := 0) hx hb dX5_worthOn_64 (by decide) ?_
      exact hend (0 : Int32) H locs _ _ hf hP hS dX5_worthOn_65
    · replace hf := if_f c_16 hf
      by_cases c_17 : (M 4 (p1).toNatClampNeg) = 2
      · replace hf := if_t c_17 hf
        refine lv_tableIn (off := 35) (tgt := 66) hx hb dX5_worthOn_31 (by rw [c_17]; decide +kernel) (by rw [c_17]; decide +kernel) (by rw [c_17]; decide +kernel) (by decide) ?_
        refine lv_iload hx hb dX5_worthOn_66 (lv_at hl 0 rfl) ?_
        exact hend v_14 H locs _ _ hf hP hS dX5_worthOn_68
      · replace hf := if_f c_17 hf
        by_cases c_18 : (M 4 (p1).toNatClampNeg) = 3
        · replace hf := if_t c_18 hf
          refine lv_tableIn (off := 38) (tgt := 69) hx hb dX5_worthOn_31 (by rw [c_18]; decide +kernel) (by rw [c_18]; decide +kernel) (by rw [c_18]; decide +kernel) (by decide) ?_
          refine lv_iload_n hx hb dX5_worthOn_69 rfl (lv_at hl 1 rfl) ?_
          refine lv_iconst (v := 2) hx hb dX5_worthOn_70 (by decide) ?_
          refine lv_idiv hx hb dX5_worthOn_71 (by decide) ?_
          refine lv_iconst (v := 1) hx hb dX5_worthOn_72 (by decide) ?_
          refine lv_icmp_le (tgt := 82) hx hb dX5_worthOn_73 (by decide) (fun c_20 => ?_) (fun c_20 => ?_)
          · replace hf := if_t c_20 hf
            refine lv_iconst (v := 1) hx hb dX5_worthOn_82 (by decide) ?_
            exact hend (1 : Int32) H locs _ _ hf hP hS dX5_worthOn_83
          · replace hf := if_f c_20 hf
            refine lv_iload_n hx hb dX5_worthOn_76 rfl (lv_at hl 1 rfl) ?_
            refine lv_iconst (v := 2) hx hb dX5_worthOn_77 (by decide) ?_
            refine lv_idiv hx hb dX5_worthOn_78 (by decide) ?_
            refine lv_goto (tgt := 83) hx hb dX5_worthOn_79 (by decide) ?_
            exact hend (v_2 / (2 : Int32)) H locs _ _ hf hP hS dX5_worthOn_83
        · replace hf := if_f c_18 hf
          by_cases c_22 : (M 4 (p1).toNatClampNeg) = 4
          · replace hf := if_t c_22 hf
            refine lv_tableIn (off := 53) (tgt := 84) hx hb dX5_worthOn_31 (by rw [c_22]; decide +kernel) (by rw [c_22]; decide +kernel) (by rw [c_22]; decide +kernel) (by decide) ?_
            refine lv_iload hx hb dX5_worthOn_84 (lv_at hl 0 rfl) ?_
            refine lv_iconst (v := 3) hx hb dX5_worthOn_86 (by decide) ?_
            refine lv_iadd hx hb dX5_worthOn_87 ?_
            exact hend (v_14 + (3 : Int32)) H locs _ _ hf hP hS dX5_worthOn_88
          · replace hf := if_f c_22 hf
            by_cases c_23 : (M 4 (p1).toNatClampNeg) = 5
            · replace hf := if_t c_23 hf
              refine lv_tableIn (off := 33) (tgt := 64) hx hb dX5_worthOn_31 (by rw [c_23]; decide +kernel) (by rw [c_23]; decide +kernel) (by rw [c_23]; decide +kernel) (by decide) ?_
              refine lv_iconst (v := 0) hx hb dX5_worthOn_64 (by decide) ?_
              exact hend (0 : Int32) H locs _ _ hf hP hS dX5_worthOn_65
            · replace hf := if_f c_23 hf
              have ht : ((M 4 (p1).toNatClampNeg)).toInt < 1 ∨ 5 < ((M 4 (p1).toNatClampNeg)).toInt := by
                have t0 := lv_neT (a := 1) c_16 (by decide +kernel)
                have t1 := lv_neT (a := 2) c_17 (by decide +kernel)
                have t2 := lv_neT (a := 3) c_18 (by decide +kernel)
                have t3 := lv_neT (a := 4) c_22 (by decide +kernel)
                have t4 := lv_neT (a := 5) c_23 (by decide +kernel)
                omega
              refine lv_tableOut (tgt := 89) hx hb dX5_worthOn_31 ht (by decide) ?_
              refine lv_iload_n hx hb dX5_worthOn_89 rfl (lv_at hl 1 rfl) ?_
              exact hend v_2 H locs _ _ hf hP hS dX5_worthOn_90

def f_X5_worth (M : St) (p1 : Int32) : Option (Int32) := (bd (f_X5_worthOn M p1 (M 16 3)) fun a_1 => (some a_1))
def rm_X5_worth : Room := { frames := 1, cells := 0, slots := 0, locals := 24 }
theorem hd_X5_worth : yX5_worth.cls = RX5 ∧ yX5_worth.cls ≠ "java/lang/invoke/MethodHandle" ∧ yX5_worth.cls ≠ "java/lang/invoke/VarHandle" ∧ (parseMethodDescriptor yX5_worth.desc).map (fun d => d.parameters.length) = some 1 := by decide +kernel
set_option maxRecDepth 100000 in
set_option maxHeartbeats 4000000 in
theorem c_X5_worth (l : Launch) (D : va_G) (cI : ClassId) (A : Nat → Nat) (M : St) (p1 : Int32) (r : Int32) (hf : f_X5_worth M p1 = some r) : Ct l yX5_worth wsX5_worth rm_X5_worth D cI (cM cI A M) (cM cI A M) [.ref (A 0), .int p1] (some (.int r)) := by
  unfold f_X5_worth at hf
  refine Ct.ofI (cc := cX5_worth) (maxL := 2) (by decide +kernel) rfl (Nat.le_of_ble_eq_true rfl) ?_
  intro p e s m args below meth c AA Q H locs ls hx hb hml hown hts hA hK hP hD hS hl hend0
  have hend : ∀ (r1 : Int32) (H : Heap) (locs : List Loc) (pc : Nat) (ls : Array Slot), some r1 = some r → va_P D vwCl (cM cI A M) H → va_S AA s.heap H locs → decode cX5_worth pc = .ok (.ireturn, 1) → W p l e rm_X5_worth s m args below meth c H locs 0 0 Q (F0 m pc ls [.int r1]) := by
    intro r1 H locs pc ls e1 hP hS hd; cases e1; exact hend0 H locs pc ls hP hS hd
  clear hend0
  have hw5 : ∀ w ∈ wsX50, w ∈ wsX5_worth := by decide +kernel
  have k110 := hts (.fieldLink RX5 110 "AnchorsForConfessionModel" "tide" "I") (by decide +kernel)
  replace hl : lv_has ls 2 [(0, .ref (A 0)), (1, .int p1)] := hl
  refine lv_aload_n hx hb dX5_worth_0 rfl (lv_at hl 0 rfl) ?_
  refine lv_iload_n hx hb dX5_worth_1 rfl (lv_at hl 1 rfl) ?_
  refine lv_aload_n hx hb dX5_worth_2 rfl (lv_at hl 0 rfl) ?_
  refine va_get (D := D) (ci := 5) (v := .int (M 16 3)) (C := RX5) (T := TX5) (N := 27) hx hb hts hw5 hown hK hP 0 cM_at0 rfl 11 (by decide) k110 (fun _ h9 => h9) rfl dX5_worth_3 ?_
  obtain ⟨a_1, ha_1, hf⟩ := bd_e hf
  refine Ct.callV (As := [.int p1, .int (M 16 3)]) (rest := []) (st1 := [.int a_1]) (c_X5_worthOn l D cI A M p1 (M 16 3) a_1 ha_1) hx hb hml hown hts (cwV 2 hts gX5_worth_X5_worthOn rfl rfl rfl hd_X5_worthOn ⟨Nat.le_of_ble_eq_true rfl, Nat.le_of_ble_eq_true rfl⟩) (va_recv hK hP (ci := 5) (q0 := 0) rfl cM_at0) (Ln.id rfl) hA hK hP hD hS rfl hl.1 rfl rfl (Nat.le_of_ble_eq_true rfl) dX5_worth_6 (fun H locs hP hD hS => ?_)
  exact hend a_1 H locs _ _ hf hP hS dX5_worth_9

def f_X5_heardOf (M : St) (p1 : Int32) : Option (Int32) := (gi p1 8 (if (M 4 (p1).toNatClampNeg) = (4 : Int32) then (bd (f_X5_worth M p1) fun a_5 => (some (a_5 / (3 : Int32)))) else (gi p1 8 (if (M 4 (p1).toNatClampNeg) = (5 : Int32) then (some (1 : Int32)) else (some (0 : Int32))))))
def rm_X5_heardOf : Room := { frames := 2, cells := 0, slots := 0, locals := 45 }
theorem hd_X5_heardOf : yX5_heardOf.cls = RX5 ∧ yX5_heardOf.cls ≠ "java/lang/invoke/MethodHandle" ∧ yX5_heardOf.cls ≠ "java/lang/invoke/VarHandle" ∧ (parseMethodDescriptor yX5_heardOf.desc).map (fun d => d.parameters.length) = some 1 := by decide +kernel
set_option maxRecDepth 100000 in
set_option maxHeartbeats 4000000 in
theorem c_X5_heardOf (l : Launch) (D : va_G) (cI : ClassId) (A : Nat → Nat) (M : St) (p1 : Int32) (r : Int32) (hf : f_X5_heardOf M p1 = some r) : Ct l yX5_heardOf wsX5_heardOf rm_X5_heardOf D cI (cM cI A M) (cM cI A M) [.ref (A 0), .int p1] (some (.int r)) := by
  unfold f_X5_heardOf at hf
  refine Ct.ofI (cc := cX5_heardOf) (maxL := 2) (by decide +kernel) rfl (Nat.le_of_ble_eq_true rfl) ?_
  intro p e s m args below meth c AA Q H locs ls hx hb hml hown hts hA hK hP hD hS hl hend0
  have hend : ∀ (r1 : Int32) (H : Heap) (locs : List Loc) (pc : Nat) (ls : Array Slot), some r1 = some r → va_P D vwCl (cM cI A M) H → va_S AA s.heap H locs → decode cX5_heardOf pc = .ok (.ireturn, 1) → W p l e rm_X5_heardOf s m args below meth c H locs 0 0 Q (F0 m pc ls [.int r1]) := by
    intro r1 H locs pc ls e1 hP hS hd; cases e1; exact hend0 H locs pc ls hP hS hd
  clear hend0
  have hw5 : ∀ w ∈ wsX50, w ∈ wsX5_heardOf := by decide +kernel
  have k22 := hts (.fieldLink RX5 22 "AnchorsForConfessionModel" "kind" "[I") (by decide +kernel)
  replace hl : lv_has ls 2 [(0, .ref (A 0)), (1, .int p1)] := hl
  refine lv_aload_n hx hb dX5_heardOf_0 rfl (lv_at hl 0 rfl) ?_
  refine va_get (D := D) (ci := 5) (v := .ref (A 5)) (C := RX5) (T := TX5) (N := 27) hx hb hts hw5 hown hK hP 0 cM_at0 rfl 4 (by decide) k22 (fun _ h9 => h9) rfl dX5_heardOf_1 ?_
  refine lv_iload_n hx hb dX5_heardOf_4 rfl (lv_at hl 1 rfl) ?_
  obtain ⟨c_1, hf⟩ := gi_e hf
  refine va_iald hx hb hK hP 5 0 cM_at5 rfl c_1 dX5_heardOf_5 ?_
  refine lv_iconst (v := 4) hx hb dX5_heardOf_6 (by decide) ?_
  refine lv_icmp_ne (tgt := 20) hx hb dX5_heardOf_7 (by decide) (fun c_2 => ?_) (fun c_2 => ?_)
  · replace hf := if_f c_2 hf
    refine lv_aload_n hx hb dX5_heardOf_20 rfl (lv_at hl 0 rfl) ?_
    refine va_get (D := D) (ci := 5) (v := .ref (A 5)) (C := RX5) (T := TX5) (N := 27) hx hb hts hw5 hown hK hP 0 cM_at0 rfl 4 (by decide) k22 (fun _ h9 => h9) rfl dX5_heardOf_21 ?_
    refine lv_iload_n hx hb dX5_heardOf_24 rfl (lv_at hl 1 rfl) ?_
    obtain ⟨c_3, hf⟩ := gi_e hf
    refine va_iald hx hb hK hP 5 0 cM_at5 rfl c_3 dX5_heardOf_25 ?_
    refine lv_iconst (v := 5) hx hb dX5_heardOf_26 (by decide) ?_
    refine lv_icmp_ne (tgt := 34) hx hb dX5_heardOf_27 (by decide) (fun c_4 => ?_) (fun c_4 => ?_)
    · replace hf := if_f c_4 hf
      refine lv_iconst (v := 0) hx hb dX5_heardOf_34 (by decide) ?_
      exact hend (0 : Int32) H locs _ _ hf hP hS dX5_heardOf_35
    · replace hf := if_t c_4 hf
      refine lv_iconst (v := 1) hx hb dX5_heardOf_30 (by decide) ?_
      refine lv_goto (tgt := 35) hx hb dX5_heardOf_31 (by decide) ?_
      exact hend (1 : Int32) H locs _ _ hf hP hS dX5_heardOf_35
  · replace hf := if_t c_2 hf
    refine lv_aload_n hx hb dX5_heardOf_10 rfl (lv_at hl 0 rfl) ?_
    refine lv_iload_n hx hb dX5_heardOf_11 rfl (lv_at hl 1 rfl) ?_
    obtain ⟨a_5, ha_5, hf⟩ := bd_e hf
    refine Ct.callV (As := [.int p1]) (rest := []) (st1 := [.int a_5]) (c_X5_worth l D cI A M p1 a_5 ha_5) hx hb hml hown hts (cwV 1 hts gX5_heardOf_X5_worth rfl rfl rfl hd_X5_worth ⟨Nat.le_of_ble_eq_true rfl, Nat.le_of_ble_eq_true rfl⟩) (va_recv hK hP (ci := 5) (q0 := 0) rfl cM_at0) (Ln.id rfl) hA hK hP hD hS rfl hl.1 rfl rfl (Nat.le_of_ble_eq_true rfl) dX5_heardOf_12 (fun H locs hP hD hS => ?_)
    refine lv_iconst (v := 3) hx hb dX5_heardOf_15 (by decide) ?_
    refine lv_idiv hx hb dX5_heardOf_16 (by decide) ?_
    refine lv_goto (tgt := 35) hx hb dX5_heardOf_17 (by decide) ?_
    exact hend (a_5 / (3 : Int32)) H locs _ _ hf hP hS dX5_heardOf_35

def f_X5_holds (M : St) (p1 : Int32) : Option (Int32) := (gi p1 5 (if ((M 16 3) - (M 16 3) / (2 : Int32) * (2 : Int32)) = 0 then (some (((((3 : Int32) * (M 1 (p1).toNatClampNeg)) + (2 : Int32)) + (2 : Int32)) + ((M 16 2) / (10 : Int32)))) else (some (((((3 : Int32) * (M 1 (p1).toNatClampNeg)) + (2 : Int32)) + (0 : Int32)) + ((M 16 2) / (10 : Int32))))))
def rm_X5_holds : Room := { frames := 0, cells := 0, slots := 0, locals := 0 }
theorem hd_X5_holds : yX5_holds.cls = RX5 ∧ yX5_holds.cls ≠ "java/lang/invoke/MethodHandle" ∧ yX5_holds.cls ≠ "java/lang/invoke/VarHandle" ∧ (parseMethodDescriptor yX5_holds.desc).map (fun d => d.parameters.length) = some 1 := by decide +kernel
set_option maxRecDepth 100000 in
set_option maxHeartbeats 4000000 in
theorem c_X5_holds (l : Launch) (D : va_G) (cI : ClassId) (A : Nat → Nat) (M : St) (p1 : Int32) (r : Int32) (hf : f_X5_holds M p1 = some r) : Ct l yX5_holds wsX5_holds rm_X5_holds D cI (cM cI A M) (cM cI A M) [.ref (A 0), .int p1] (some (.int r)) := by
  unfold f_X5_holds at hf
  refine Ct.ofI (cc := cX5_holds) (maxL := 2) (by decide +kernel) rfl (Nat.le_of_ble_eq_true rfl) ?_
  intro p e s m args below meth c AA Q H locs ls hx hb hml hown hts hA hK hP hD hS hl hend0
  have hend : ∀ (r1 : Int32) (H : Heap) (locs : List Loc) (pc : Nat) (ls : Array Slot), some r1 = some r → va_P D vwCl (cM cI A M) H → va_S AA s.heap H locs → decode cX5_holds pc = .ok (.ireturn, 1) → W p l e rm_X5_holds s m args below meth c H locs 0 0 Q (F0 m pc ls [.int r1]) := by
    intro r1 H locs pc ls e1 hP hS hd; cases e1; exact hend0 H locs pc ls hP hS hd
  clear hend0
  have hw5 : ∀ w ∈ wsX50, w ∈ wsX5_holds := by decide +kernel
  have k13 := hts (.fieldLink RX5 13 "AnchorsForConfessionModel" "heavy" "[I") (by decide +kernel)
  have k110 := hts (.fieldLink RX5 110 "AnchorsForConfessionModel" "tide" "I") (by decide +kernel)
  have k160 := hts (.fieldLink RX5 160 "AnchorsForConfessionModel" "heard" "I") (by decide +kernel)
  replace hl : lv_has ls 2 [(0, .ref (A 0)), (1, .int p1)] := hl
  refine lv_iconst (v := 3) hx hb dX5_holds_0 (by decide) ?_
  refine lv_aload_n hx hb dX5_holds_1 rfl (lv_at hl 0 rfl) ?_
  refine va_get (D := D) (ci := 5) (v := .ref (A 2)) (C := RX5) (T := TX5) (N := 27) hx hb hts hw5 hown hK hP 0 cM_at0 rfl 1 (by decide) k13 (fun _ h9 => h9) rfl dX5_holds_2 ?_
  refine lv_iload_n hx hb dX5_holds_5 rfl (lv_at hl 1 rfl) ?_
  obtain ⟨c_1, hf⟩ := gi_e hf
  refine va_iald hx hb hK hP 2 0 cM_at2 rfl c_1 dX5_holds_6 ?_
  refine lv_imul hx hb dX5_holds_7 ?_
  refine lv_iconst (v := 2) hx hb dX5_holds_8 (by decide) ?_
  refine lv_iadd hx hb dX5_holds_9 ?_
  refine lv_aload_n hx hb dX5_holds_10 rfl (lv_at hl 0 rfl) ?_
  refine va_get (D := D) (ci := 5) (v := .int (M 16 3)) (C := RX5) (T := TX5) (N := 27) hx hb hts hw5 hown hK hP 0 cM_at0 rfl 11 (by decide) k110 (fun _ h9 => h9) rfl dX5_holds_11 ?_
  refine lv_iconst (v := 2) hx hb dX5_holds_14 (by decide) ?_
  refine lv_irem hx hb dX5_holds_15 (by decide) ?_
  refine lv_if_ne (tgt := 23) hx hb dX5_holds_16 (by decide) (fun c_3 => ?_) (fun c_3 => ?_)
  · replace hf := if_f c_3 hf
    refine lv_iconst (v := 0) hx hb dX5_holds_23 (by decide) ?_
    refine lv_iadd hx hb dX5_holds_24 ?_
    refine lv_aload_n hx hb dX5_holds_25 rfl (lv_at hl 0 rfl) ?_
    refine va_get (D := D) (ci := 5) (v := .int (M 16 2)) (C := RX5) (T := TX5) (N := 27) hx hb hts hw5 hown hK hP 0 cM_at0 rfl 10 (by decide) k160 (fun _ h9 => h9) rfl dX5_holds_26 ?_
    refine lv_bipush (v := 10) hx hb dX5_holds_29 (by decide +kernel) ?_
    refine lv_idiv hx hb dX5_holds_31 (by decide) ?_
    refine lv_iadd hx hb dX5_holds_32 ?_
    exact hend (((((3 : Int32) * (M 1 (p1).toNatClampNeg)) + (2 : Int32)) + (0 : Int32)) + ((M 16 2) / (10 : Int32))) H locs _ _ hf hP hS dX5_holds_33
  · replace hf := if_t c_3 hf
    refine lv_iconst (v := 2) hx hb dX5_holds_19 (by decide) ?_
    refine lv_goto (tgt := 24) hx hb dX5_holds_20 (by decide) ?_
    refine lv_iadd hx hb dX5_holds_24 ?_
    refine lv_aload_n hx hb dX5_holds_25 rfl (lv_at hl 0 rfl) ?_
    refine va_get (D := D) (ci := 5) (v := .int (M 16 2)) (C := RX5) (T := TX5) (N := 27) hx hb hts hw5 hown hK hP 0 cM_at0 rfl 10 (by decide) k160 (fun _ h9 => h9) rfl dX5_holds_26 ?_
    refine lv_bipush (v := 10) hx hb dX5_holds_29 (by decide +kernel) ?_
    refine lv_idiv hx hb dX5_holds_31 (by decide) ?_
    refine lv_iadd hx hb dX5_holds_32 ?_
    exact hend (((((3 : Int32) * (M 1 (p1).toNatClampNeg)) + (2 : Int32)) + (2 : Int32)) + ((M 16 2) / (10 : Int32))) H locs _ _ hf hP hS dX5_holds_33

def f_X5_rises (M : St) : Option (Int32 × St) := (lp (fun (nx4 : (Int32 × Int32 × St) → Option (Int32 × St)) (q4 : Int32 × Int32 × St) => (if (q4.2.2 16 0) ≤ q4.2.1 then (some (q4.1, q4.2.2)) else (gi q4.2.1 5 (if 0 < (q4.2.2 3 (q4.2.1).toNatClampNeg) then (nm (q4.2.1 + (1 : Int32)) fun v_4 => (nx4 (q4.1, v_4, q4.2.2))) else (gi q4.2.1 5 (bd (f_X5_holds q4.2.2 q4.2.1) fun a_6 => (if a_6 ≤ (q4.2.2 2 (q4.2.1).toNatClampNeg) then (gi q4.2.1 5 (nm (su q4.2.2 3 (q4.2.1).toNatClampNeg (3 : Int32)) fun h_9 => (gi q4.2.1 5 (nm (su h_9 2 (q4.2.1).toNatClampNeg (0 : Int32)) fun h_11 => (nm (q4.1 + (1 : Int32)) fun v_12 => (nm (q4.2.1 + (1 : Int32)) fun v_13 => (nx4 (v_12, v_13, h_11)))))))) else (nm (q4.2.1 + (1 : Int32)) fun v_14 => (nx4 (q4.1, v_14, q4.2.2)))))))))) 1000 ((0 : Int32), (0 : Int32), M))
def rm_X5_rises : Room := { frames := 1, cells := 0, slots := 0, locals := 21 }
theorem hd_X5_rises : yX5_rises.cls = RX5 ∧ yX5_rises.cls ≠ "java/lang/invoke/MethodHandle" ∧ yX5_rises.cls ≠ "java/lang/invoke/VarHandle" ∧ (parseMethodDescriptor yX5_rises.desc).map (fun d => d.parameters.length) = some 0 := by decide +kernel
set_option maxRecDepth 100000 in
set_option maxHeartbeats 4000000 in
theorem c_X5_rises (l : Launch) (D : va_G) (cI : ClassId) (A : Nat → Nat) (M : St) (r : Int32 × St) (hf : f_X5_rises M = some r) : Ct l yX5_rises wsX5_rises rm_X5_rises D cI (cM cI A M) (cM cI A r.2) [.ref (A 0)] (some (.int r.1)) := by
  unfold f_X5_rises at hf
  refine Ct.ofI (cc := cX5_rises) (maxL := 3) (by decide +kernel) rfl (Nat.le_of_ble_eq_true rfl) ?_
  intro p e s m args below meth c AA Q H locs ls hx hb hml hown hts hA hK hP hD hS hl hend0
  have hend : ∀ (r1 : Int32 × St) (H : Heap) (locs : List Loc) (pc : Nat) (ls : Array Slot), some r1 = some r → va_P D vwCl (cM cI A r1.2) H → va_S AA s.heap H locs → decode cX5_rises pc = .ok (.ireturn, 1) → W p l e rm_X5_rises s m args below meth c H locs 0 0 Q (F0 m pc ls [.int r1.1]) := by
    intro r1 H locs pc ls e1 hP hS hd; cases e1; exact hend0 H locs pc ls hP hS hd
  clear hend0
  have hw5 : ∀ w ∈ wsX50, w ∈ wsX5_rises := by decide +kernel
  have k16 := hts (.fieldLink RX5 16 "AnchorsForConfessionModel" "loose" "[I") (by decide +kernel)
  have k19 := hts (.fieldLink RX5 19 "AnchorsForConfessionModel" "out" "[I") (by decide +kernel)
  have k58 := hts (.fieldLink RX5 58 "AnchorsForConfessionModel" "ships" "I") (by decide +kernel)
  replace hl : lv_has ls 3 [(0, .ref (A 0))] := hl
  refine lv_iconst (v := 0) hx hb dX5_rises_0 (by decide) ?_
  refine lv_istore_n (lv' := [(1, .int (0 : Int32)), (0, .ref (A 0))]) hx hb dX5_rises_1 rfl hl (by decide) rfl (fun ls hl => ?_)
  refine lv_iconst (v := 0) hx hb dX5_rises_2 (by decide) ?_
  refine lv_istore_n (lv' := [(2, .int (0 : Int32)), (1, .int (0 : Int32)), (0, .ref (A 0))]) hx hb dX5_rises_3 rfl hl (by decide) rfl (fun ls hl => ?_)
  refine lp_ind (P := fun (q4 : Int32 × Int32 × St) => ∀ (H : Heap) (locs : List Loc) (ls : Array Slot), va_P D vwCl (cM cI A q4.2.2) H → va_D AA (cM cI A q4.2.2) → va_S AA s.heap H locs → lv_has ls 3 [(0, .ref (A 0)), (1, .int q4.1), (2, .int q4.2.1)] → W p l e rm_X5_rises s m args below meth c H locs 0 0 Q (F0 m 4 ls [])) hf ?_ H locs ls hP hD hS (lv_sub hl [2, 1, 0] rfl)
  clear hf hP hD hS hl
  intro nx4 ih4 q4 hf H locs ls hP hD hS hl
  refine lv_iload_n hx hb dX5_rises_4 rfl (lv_at hl 2 rfl) ?_
  refine lv_aload_n hx hb dX5_rises_5 rfl (lv_at hl 0 rfl) ?_
  refine va_get (D := D) (ci := 5) (v := .int (q4.2.2 16 0)) (C := RX5) (T := TX5) (N := 27) hx hb hts hw5 hown hK hP 0 cM_at0 rfl 8 (by decide) k58 (fun _ h9 => h9) rfl dX5_rises_6 ?_
  refine lv_icmp_ge (tgt := 61) hx hb dX5_rises_9 (by decide) (fun c_1 => ?_) (fun c_1 => ?_)
  · replace hf := if_t c_1 hf
    refine lv_iload_n hx hb dX5_rises_61 rfl (lv_at hl 1 rfl) ?_
    exact hend (q4.1, q4.2.2) H locs _ _ hf hP hS dX5_rises_62
  · replace hf := if_f c_1 hf
    refine lv_aload_n hx hb dX5_rises_12 rfl (lv_at hl 0 rfl) ?_
    refine va_get (D := D) (ci := 5) (v := .ref (A 4)) (C := RX5) (T := TX5) (N := 27) hx hb hts hw5 hown hK hP 0 cM_at0 rfl 3 (by decide) k19 (fun _ h9 => h9) rfl dX5_rises_13 ?_
    refine lv_iload_n hx hb dX5_rises_16 rfl (lv_at hl 2 rfl) ?_
    obtain ⟨c_2, hf⟩ := gi_e hf
    refine va_iald hx hb hK hP 4 0 cM_at4 rfl c_2 dX5_rises_17 ?_
    refine lv_if_gt (tgt := 55) hx hb dX5_rises_18 (by decide) (fun c_3 => ?_) (fun c_3 => ?_)
    · replace hf := if_t c_3 hf
      obtain ⟨v_4, ev_4, hf⟩ := nm_e hf
      refine lv_iinc (v := v_4) (lv' := [(2, .int v_4), (0, .ref (A 0)), (1, .int q4.1)]) hx hb dX5_rises_55 hl (k := 2) rfl (by rw [ev_4]; rfl) (by decide) rfl (fun ls hl => ?_)
      refine lv_goto (tgt := 4) hx hb dX5_rises_58 (by decide) ?_
      exact ih4 (q4.1, v_4, q4.2.2) hf H locs ls hP hD hS (lv_sub hl [1, 2, 0] rfl)
    · replace hf := if_f c_3 hf
      refine lv_aload_n hx hb dX5_rises_21 rfl (lv_at hl 0 rfl) ?_
      refine va_get (D := D) (ci := 5) (v := .ref (A 3)) (C := RX5) (T := TX5) (N := 27) hx hb hts hw5 hown hK hP 0 cM_at0 rfl 2 (by decide) k16 (fun _ h9 => h9) rfl dX5_rises_22 ?_
      refine lv_iload_n hx hb dX5_rises_25 rfl (lv_at hl 2 rfl) ?_
      obtain ⟨c_5, hf⟩ := gi_e hf
      refine va_iald hx hb hK hP 3 0 cM_at3 rfl c_5 dX5_rises_26 ?_
      refine lv_aload_n hx hb dX5_rises_27 rfl (lv_at hl 0 rfl) ?_
      refine lv_iload_n hx hb dX5_rises_28 rfl (lv_at hl 2 rfl) ?_
      obtain ⟨a_6, ha_6, hf⟩ := bd_e hf
      refine Ct.callV (As := [.int q4.2.1]) (rest := [.int (q4.2.2 2 (q4.2.1).toNatClampNeg)]) (st1 := [.int a_6, .int (q4.2.2 2 (q4.2.1).toNatClampNeg)]) (c_X5_holds l D cI A q4.2.2 q4.2.1 a_6 ha_6) hx hb hml hown hts (cwV 1 hts gX5_rises_X5_holds rfl rfl rfl hd_X5_holds ⟨Nat.le_of_ble_eq_true rfl, Nat.le_of_ble_eq_true rfl⟩) (va_recv hK hP (ci := 5) (q0 := 0) rfl cM_at0) (Ln.id rfl) hA hK hP hD hS rfl hl.1 rfl rfl (Nat.le_of_ble_eq_true rfl) dX5_rises_29 (fun H locs hP hD hS => ?_)
      refine lv_icmp_ge (tgt := 38) hx hb dX5_rises_32 (by decide) (fun c_7 => ?_) (fun c_7 => ?_)
      · replace hf := if_t c_7 hf
        refine lv_aload_n hx hb dX5_rises_38 rfl (lv_at hl 0 rfl) ?_
        refine va_get (D := D) (ci := 5) (v := .ref (A 4)) (C := RX5) (T := TX5) (N := 27) hx hb hts hw5 hown hK hP 0 cM_at0 rfl 3 (by decide) k19 (fun _ h9 => h9) rfl dX5_rises_39 ?_
        refine lv_iload_n hx hb dX5_rises_42 rfl (lv_at hl 2 rfl) ?_
        refine lv_iconst (v := 3) hx hb dX5_rises_43 (by decide) ?_
        obtain ⟨c_8, hf⟩ := gi_e hf
        refine va_iast hx hb hK hP hD hS 4 0 cM_at4 rfl c_8 dX5_rises_44 (fun H locs hP hD hS => ?_)
        obtain ⟨h_9, eh_9, hf⟩ := nm_e hf
        rw [cM_su4, ← eh_9] at hP hD
        refine lv_aload_n hx hb dX5_rises_45 rfl (lv_at hl 0 rfl) ?_
        refine va_get (D := D) (ci := 5) (v := .ref (A 3)) (C := RX5) (T := TX5) (N := 27) hx hb hts hw5 hown hK hP 0 cM_at0 rfl 2 (by decide) k16 (fun _ h9 => h9) rfl dX5_rises_46 ?_
        refine lv_iload_n hx hb dX5_rises_49 rfl (lv_at hl 2 rfl) ?_
        refine lv_iconst (v := 0) hx hb dX5_rises_50 (by decide) ?_
        obtain ⟨c_10, hf⟩ := gi_e hf
        refine va_iast hx hb hK hP hD hS 3 0 cM_at3 rfl c_10 dX5_rises_51 (fun H locs hP hD hS => ?_)
        obtain ⟨h_11, eh_11, hf⟩ := nm_e hf
        rw [cM_su3, ← eh_11] at hP hD
        obtain ⟨v_12, ev_12, hf⟩ := nm_e hf
        refine lv_iinc (v := v_12) (lv' := [(1, .int v_12), (0, .ref (A 0)), (2, .int q4.2.1)]) hx hb dX5_rises_52 hl (k := 1) rfl (by rw [ev_12]; rfl) (by decide) rfl (fun ls hl => ?_)
        obtain ⟨v_13, ev_13, hf⟩ := nm_e hf
        refine lv_iinc (v := v_13) (lv' := [(2, .int v_13), (1, .int v_12), (0, .ref (A 0))]) hx hb dX5_rises_55 hl (k := 2) rfl (by rw [ev_13]; rfl) (by decide) rfl (fun ls hl => ?_)
        refine lv_goto (tgt := 4) hx hb dX5_rises_58 (by decide) ?_
        exact ih4 (v_12, v_13, h_11) hf H locs ls hP hD hS (lv_sub hl [2, 1, 0] rfl)
      · replace hf := if_f c_7 hf
        refine lv_goto (tgt := 55) hx hb dX5_rises_35 (by decide) ?_
        obtain ⟨v_14, ev_14, hf⟩ := nm_e hf
        refine lv_iinc (v := v_14) (lv' := [(2, .int v_14), (0, .ref (A 0)), (1, .int q4.1)]) hx hb dX5_rises_55 hl (k := 2) rfl (by rw [ev_14]; rfl) (by decide) rfl (fun ls hl => ?_)
        refine lv_goto (tgt := 4) hx hb dX5_rises_58 (by decide) ?_
        exact ih4 (q4.1, v_14, q4.2.2) hf H locs ls hP hD hS (lv_sub hl [1, 2, 0] rfl)

def f_X5_tellsOne (M : St) (p1 : Int32) : Option (Int32 × St) := (gi p1 8 (gi p1 8 (nm (su M 6 (p1).toNatClampNeg ((M 6 (p1).toNatClampNeg) - (1 : Int32))) fun h_3 => (bd (f_X5_held ((h_3 16 2) + (1 : Int32)) (0 : Int32) (999 : Int32)) fun a_4 => (nm (su h_3 16 2 a_4) fun h_5 => (lp (fun (nx29 : (Int32 × St) → Option (Int32 × St)) (q29 : Int32 × St) => (if (q29.2 16 0) ≤ q29.1 then (bd (f_X5_rises q29.2) fun a_7 => (some (a_7.1, a_7.2))) else (gi q29.1 5 (if (q29.2 3 (q29.1).toNatClampNeg) = 0 then (gi q29.1 5 (gi p1 8 (if q29.1 = (q29.2 7 (p1).toNatClampNeg) then (bd (f_X5_worth q29.2 p1) fun a_19 => (bd (f_X5_held ((q29.2 2 (q29.1).toNatClampNeg) + a_19) (0 : Int32) (99 : Int32)) fun a_20 => (gi q29.1 5 (nm (su q29.2 2 (q29.1).toNatClampNeg a_20) fun h_22 => (nm (q29.1 + (1 : Int32)) fun v_23 => (nx29 (v_23, h_22))))))) else (bd (f_X5_heardOf q29.2 p1) fun a_14 => (bd (f_X5_held ((q29.2 2 (q29.1).toNatClampNeg) + a_14) (0 : Int32) (99 : Int32)) fun a_15 => (gi q29.1 5 (nm (su q29.2 2 (q29.1).toNatClampNeg a_15) fun h_17 => (nm (q29.1 + (1 : Int32)) fun v_18 => (nx29 (v_18, h_17)))))))))) else (nm (q29.1 + (1 : Int32)) fun v_10 => (nx29 (v_10, q29.2))))))) 1000 ((0 : Int32), h_5)))))))
def rm_X5_tellsOne : Room := { frames := 3, cells := 0, slots := 0, locals := 66 }
theorem hd_X5_tellsOne : yX5_tellsOne.cls = RX5 ∧ yX5_tellsOne.cls ≠ "java/lang/invoke/MethodHandle" ∧ yX5_tellsOne.cls ≠ "java/lang/invoke/VarHandle" ∧ (parseMethodDescriptor yX5_tellsOne.desc).map (fun d => d.parameters.length) = some 1 := by decide +kernel
set_option maxRecDepth 100000 in
set_option maxHeartbeats 4000000 in
theorem c_X5_tellsOne (l : Launch) (D : va_G) (cI : ClassId) (A : Nat → Nat) (M : St) (p1 : Int32) (r : Int32 × St) (hf : f_X5_tellsOne M p1 = some r) : Ct l yX5_tellsOne wsX5_tellsOne rm_X5_tellsOne D cI (cM cI A M) (cM cI A r.2) [.ref (A 0), .int p1] (some (.int r.1)) := by
  unfold f_X5_tellsOne at hf
  refine Ct.ofI (cc := cX5_tellsOne) (maxL := 3) (by decide +kernel) rfl (Nat.le_of_ble_eq_true rfl) ?_
  intro p e s m args below meth c AA Q H locs ls hx hb hml hown hts hA hK hP hD hS hl hend0
  have hend : ∀ (r1 : Int32 × St) (H : Heap) (locs : List Loc) (pc : Nat) (ls : Array Slot), some r1 = some r → va_P D vwCl (cM cI A r1.2) H → va_S AA s.heap H locs → decode cX5_tellsOne pc = .ok (.ireturn, 1) → W p l e rm_X5_tellsOne s m args below meth c H locs 0 0 Q (F0 m pc ls [.int r1.1]) := by
    intro r1 H locs pc ls e1 hP hS hd; cases e1; exact hend0 H locs pc ls hP hS hd
  clear hend0
  have hw5 : ∀ w ∈ wsX50, w ∈ wsX5_tellsOne := by decide +kernel
  have k16 := hts (.fieldLink RX5 16 "AnchorsForConfessionModel" "loose" "[I") (by decide +kernel)
  have k19 := hts (.fieldLink RX5 19 "AnchorsForConfessionModel" "out" "[I") (by decide +kernel)
  have k28 := hts (.fieldLink RX5 28 "AnchorsForConfessionModel" "sins" "[I") (by decide +kernel)
  have k31 := hts (.fieldLink RX5 31 "AnchorsForConfessionModel" "aboard" "[I") (by decide +kernel)
  have k58 := hts (.fieldLink RX5 58 "AnchorsForConfessionModel" "ships" "I") (by decide +kernel)
  have k160 := hts (.fieldLink RX5 160 "AnchorsForConfessionModel" "heard" "I") (by decide +kernel)
  replace hl : lv_has ls 3 [(0, .ref (A 0)), (1, .int p1)] := hl
  refine lv_aload_n hx hb dX5_tellsOne_0 rfl (lv_at hl 0 rfl) ?_
  refine va_get (D := D) (ci := 5) (v := .ref (A 7)) (C := RX5) (T := TX5) (N := 27) hx hb hts hw5 hown hK hP 0 cM_at0 rfl 6 (by decide) k28 (fun _ h9 => h9) rfl dX5_tellsOne_1 ?_
  refine lv_iload_n hx hb dX5_tellsOne_4 rfl (lv_at hl 1 rfl) ?_
  refine lv_dup2_11 hx hb dX5_tellsOne_5 rfl rfl ?_
  obtain ⟨c_1, hf⟩ := gi_e hf
  refine va_iald hx hb hK hP 7 0 cM_at7 rfl c_1 dX5_tellsOne_6 ?_
  refine lv_iconst (v := 1) hx hb dX5_tellsOne_7 (by decide) ?_
  refine lv_isub hx hb dX5_tellsOne_8 ?_
  obtain ⟨c_2, hf⟩ := gi_e hf
  refine va_iast hx hb hK hP hD hS 7 0 cM_at7 rfl c_2 dX5_tellsOne_9 (fun H locs hP hD hS => ?_)
  obtain ⟨h_3, eh_3, hf⟩ := nm_e hf
  rw [cM_su7, ← eh_3] at hP hD
  refine lv_aload_n hx hb dX5_tellsOne_10 rfl (lv_at hl 0 rfl) ?_
  refine lv_aload_n hx hb dX5_tellsOne_11 rfl (lv_at hl 0 rfl) ?_
  refine va_get (D := D) (ci := 5) (v := .int (h_3 16 2)) (C := RX5) (T := TX5) (N := 27) hx hb hts hw5 hown hK hP 0 cM_at0 rfl 10 (by decide) k160 (fun _ h9 => h9) rfl dX5_tellsOne_12 ?_
  refine lv_iconst (v := 1) hx hb dX5_tellsOne_15 (by decide) ?_
  refine lv_iadd hx hb dX5_tellsOne_16 ?_
  refine lv_iconst (v := 0) hx hb dX5_tellsOne_17 (by decide) ?_
  refine lv_sipush (v := 999) hx hb dX5_tellsOne_18 (by decide +kernel) ?_
  obtain ⟨a_4, ha_4, hf⟩ := bd_e hf
  refine Ct.callS (As := [.int ((h_3 16 2) + (1 : Int32)), .int (0 : Int32), .int (999 : Int32)]) (rest := [.ref (A 0)]) (st1 := [.int a_4, .ref (A 0)]) (c_X5_held l D cI  ((h_3 16 2) + (1 : Int32)) (0 : Int32) (999 : Int32) a_4 ha_4) hx hb hml hown hts (va_cwS 3 hts gX5_tellsOne_X5_held rfl rfl rfl hd_X5_held ⟨Nat.le_of_ble_eq_true rfl, Nat.le_of_ble_eq_true rfl⟩) Ln.nil hA hK hP hD hS rfl hl.1 rfl rfl (Nat.le_of_ble_eq_true rfl) dX5_tellsOne_21 (fun H locs hP hD hS => ?_)
  refine va_put (D := D) (ci := 5) (v := .int a_4) (ty := .int) (C := RX5) (T := TX5) (N := 27) hx hb hts hw5 tyX5 tyX5_ok nmX5 hown hK hP hD hS 0 cM_at0 rfl 10 (by decide) k160 (fun _ h9 => h9) rfl (tyX5_ok 10 (by decide)) rfl rfl (Nat.le_of_ble_eq_true rfl) dX5_tellsOne_24 (fun H locs hP hD hS => ?_)
  obtain ⟨h_5, eh_5, hf⟩ := nm_e hf
  rw [cM_sc0_10, ← eh_5] at hP hD
  refine lv_iconst (v := 0) hx hb dX5_tellsOne_27 (by decide) ?_
  refine lv_istore_n (lv' := [(2, .int (0 : Int32)), (0, .ref (A 0)), (1, .int p1)]) hx hb dX5_tellsOne_28 rfl hl (by decide) rfl (fun ls hl => ?_)
  refine lp_ind (P := fun (q29 : Int32 × St) => ∀ (H : Heap) (locs : List Loc) (ls : Array Slot), va_P D vwCl (cM cI A q29.2) H → va_D AA (cM cI A q29.2) → va_S AA s.heap H locs → lv_has ls 3 [(0, .ref (A 0)), (1, .int p1), (2, .int q29.1)] → W p l e rm_X5_tellsOne s m args below meth c H locs 0 0 Q (F0 m 29 ls [])) hf ?_ H locs ls hP hD hS (lv_sub hl [1, 2, 0] rfl)
  clear hf hP hD hS hl
  intro nx29 ih29 q29 hf H locs ls hP hD hS hl
  refine lv_iload_n hx hb dX5_tellsOne_29 rfl (lv_at hl 2 rfl) ?_
  refine lv_aload_n hx hb dX5_tellsOne_30 rfl (lv_at hl 0 rfl) ?_
  refine va_get (D := D) (ci := 5) (v := .int (q29.2 16 0)) (C := RX5) (T := TX5) (N := 27) hx hb hts hw5 hown hK hP 0 cM_at0 rfl 8 (by decide) k58 (fun _ h9 => h9) rfl dX5_tellsOne_31 ?_
  refine lv_icmp_ge (tgt := 94) hx hb dX5_tellsOne_34 (by decide) (fun c_6 => ?_) (fun c_6 => ?_)
  · replace hf := if_t c_6 hf
    refine lv_aload_n hx hb dX5_tellsOne_94 rfl (lv_at hl 0 rfl) ?_
    obtain ⟨a_7, ha_7, hf⟩ := bd_e hf
    refine Ct.callV (As := []) (rest := []) (st1 := [.int a_7.1]) (c_X5_rises l D cI A q29.2 a_7 ha_7) hx hb hml hown hts (cwV 0 hts gX5_tellsOne_X5_rises rfl rfl rfl hd_X5_rises ⟨Nat.le_of_ble_eq_true rfl, Nat.le_of_ble_eq_true rfl⟩) (va_recv hK hP (ci := 5) (q0 := 0) rfl cM_at0) (Ln.id rfl) hA hK hP hD hS rfl hl.1 rfl rfl (Nat.le_of_ble_eq_true rfl) dX5_tellsOne_95 (fun H locs hP hD hS => ?_)
    replace hP : va_P D vwCl (cM cI A a_7.2) H := hP
    replace hD : va_D AA (cM cI A a_7.2) := hD
    exact hend (a_7.1, a_7.2) H locs _ _ hf hP hS dX5_tellsOne_98
  · replace hf := if_f c_6 hf
    refine lv_aload_n hx hb dX5_tellsOne_37 rfl (lv_at hl 0 rfl) ?_
    refine va_get (D := D) (ci := 5) (v := .ref (A 4)) (C := RX5) (T := TX5) (N := 27) hx hb hts hw5 hown hK hP 0 cM_at0 rfl 3 (by decide) k19 (fun _ h9 => h9) rfl dX5_tellsOne_38 ?_
    refine lv_iload_n hx hb dX5_tellsOne_41 rfl (lv_at hl 2 rfl) ?_
    obtain ⟨c_8, hf⟩ := gi_e hf
    refine va_iald hx hb hK hP 4 0 cM_at4 rfl c_8 dX5_tellsOne_42 ?_
    refine lv_if_ne (tgt := 88) hx hb dX5_tellsOne_43 (by decide) (fun c_9 => ?_) (fun c_9 => ?_)
    · replace hf := if_f c_9 hf
      obtain ⟨v_10, ev_10, hf⟩ := nm_e hf
      refine lv_iinc (v := v_10) (lv' := [(2, .int v_10), (0, .ref (A 0)), (1, .int p1)]) hx hb dX5_tellsOne_88 hl (k := 2) rfl (by rw [ev_10]; rfl) (by decide) rfl (fun ls hl => ?_)
      refine lv_goto (tgt := 29) hx hb dX5_tellsOne_91 (by decide) ?_
      exact ih29 (v_10, q29.2) hf H locs ls hP hD hS (lv_sub hl [1, 2, 0] rfl)
    · replace hf := if_t c_9 hf
      refine lv_aload_n hx hb dX5_tellsOne_46 rfl (lv_at hl 0 rfl) ?_
      refine va_get (D := D) (ci := 5) (v := .ref (A 3)) (C := RX5) (T := TX5) (N := 27) hx hb hts hw5 hown hK hP 0 cM_at0 rfl 2 (by decide) k16 (fun _ h9 => h9) rfl dX5_tellsOne_47 ?_
      refine lv_iload_n hx hb dX5_tellsOne_50 rfl (lv_at hl 2 rfl) ?_
      refine lv_aload_n hx hb dX5_tellsOne_51 rfl (lv_at hl 0 rfl) ?_
      refine va_get (D := D) (ci := 5) (v := .ref (A 3)) (C := RX5) (T := TX5) (N := 27) hx hb hts hw5 hown hK hP 0 cM_at0 rfl 2 (by decide) k16 (fun _ h9 => h9) rfl dX5_tellsOne_52 ?_
      refine lv_iload_n hx hb dX5_tellsOne_55 rfl (lv_at hl 2 rfl) ?_
      obtain ⟨c_11, hf⟩ := gi_e hf
      refine va_iald hx hb hK hP 3 0 cM_at3 rfl c_11 dX5_tellsOne_56 ?_
      refine lv_iload_n hx hb dX5_tellsOne_57 rfl (lv_at hl 2 rfl) ?_
      refine lv_aload_n hx hb dX5_tellsOne_58 rfl (lv_at hl 0 rfl) ?_
      refine va_get (D := D) (ci := 5) (v := .ref (A 8)) (C := RX5) (T := TX5) (N := 27) hx hb hts hw5 hown hK hP 0 cM_at0 rfl 7 (by decide) k31 (fun _ h9 => h9) rfl dX5_tellsOne_59 ?_
      refine lv_iload_n hx hb dX5_tellsOne_62 rfl (lv_at hl 1 rfl) ?_
      obtain ⟨c_12, hf⟩ := gi_e hf
      refine va_iald hx hb hK hP 8 0 cM_at8 rfl c_12 dX5_tellsOne_63 ?_
      refine lv_icmp_ne (tgt := 75) hx hb dX5_tellsOne_64 (by decide) (fun c_13 => ?_) (fun c_13 => ?_)
      · replace hf := if_f c_13 hf
        refine lv_aload_n hx hb dX5_tellsOne_75 rfl (lv_at hl 0 rfl) ?_
        refine lv_iload_n hx hb dX5_tellsOne_76 rfl (lv_at hl 1 rfl) ?_
        obtain ⟨a_14, ha_14, hf⟩ := bd_e hf
        refine Ct.callV (As := [.int p1]) (rest := [.int (q29.2 2 (q29.1).toNatClampNeg), .int q29.1, .ref (A 3)]) (st1 := [.int a_14, .int (q29.2 2 (q29.1).toNatClampNeg), .int q29.1, .ref (A 3)]) (c_X5_heardOf l D cI A q29.2 p1 a_14 ha_14) hx hb hml hown hts (cwV 1 hts gX5_tellsOne_X5_heardOf rfl rfl rfl hd_X5_heardOf ⟨Nat.le_of_ble_eq_true rfl, Nat.le_of_ble_eq_true rfl⟩) (va_recv hK hP (ci := 5) (q0 := 0) rfl cM_at0) (Ln.id rfl) hA hK hP hD hS rfl hl.1 rfl rfl (Nat.le_of_ble_eq_true rfl) dX5_tellsOne_77 (fun H locs hP hD hS => ?_)
        refine lv_iadd hx hb dX5_tellsOne_80 ?_
        refine lv_iconst (v := 0) hx hb dX5_tellsOne_81 (by decide) ?_
        refine lv_bipush (v := 99) hx hb dX5_tellsOne_82 (by decide +kernel) ?_
        obtain ⟨a_15, ha_15, hf⟩ := bd_e hf
        refine Ct.callS (As := [.int ((q29.2 2 (q29.1).toNatClampNeg) + a_14), .int (0 : Int32), .int (99 : Int32)]) (rest := [.int q29.1, .ref (A 3)]) (st1 := [.int a_15, .int q29.1, .ref (A 3)]) (c_X5_held l D cI  ((q29.2 2 (q29.1).toNatClampNeg) + a_14) (0 : Int32) (99 : Int32) a_15 ha_15) hx hb hml hown hts (va_cwS 3 hts gX5_tellsOne_X5_held rfl rfl rfl hd_X5_held ⟨Nat.le_of_ble_eq_true rfl, Nat.le_of_ble_eq_true rfl⟩) Ln.nil hA hK hP hD hS rfl hl.1 rfl rfl (Nat.le_of_ble_eq_true rfl) dX5_tellsOne_84 (fun H locs hP hD hS => ?_)
        obtain ⟨c_16, hf⟩ := gi_e hf
        refine va_iast hx hb hK hP hD hS 3 0 cM_at3 rfl c_16 dX5_tellsOne_87 (fun H locs hP hD hS => ?_)
        obtain ⟨h_17, eh_17, hf⟩ := nm_e hf
        rw [cM_su3, ← eh_17] at hP hD
        obtain ⟨v_18, ev_18, hf⟩ := nm_e hf
        refine lv_iinc (v := v_18) (lv' := [(2, .int v_18), (0, .ref (A 0)), (1, .int p1)]) hx hb dX5_tellsOne_88 hl (k := 2) rfl (by rw [ev_18]; rfl) (by decide) rfl (fun ls hl => ?_)
        refine lv_goto (tgt := 29) hx hb dX5_tellsOne_91 (by decide) ?_
        exact ih29 (v_18, h_17) hf H locs ls hP hD hS (lv_sub hl [1, 2, 0] rfl)
      · replace hf := if_t c_13 hf
        refine lv_aload_n hx hb dX5_tellsOne_67 rfl (lv_at hl 0 rfl) ?_
        refine lv_iload_n hx hb dX5_tellsOne_68 rfl (lv_at hl 1 rfl) ?_
        obtain ⟨a_19, ha_19, hf⟩ := bd_e hf
        refine Ct.callV (As := [.int p1]) (rest := [.int (q29.2 2 (q29.1).toNatClampNeg), .int q29.1, .ref (A 3)]) (st1 := [.int a_19, .int (q29.2 2 (q29.1).toNatClampNeg), .int q29.1, .ref (A 3)]) (c_X5_worth l D cI A q29.2 p1 a_19 ha_19) hx hb hml hown hts (cwV 1 hts gX5_tellsOne_X5_worth rfl rfl rfl hd_X5_worth ⟨Nat.le_of_ble_eq_true rfl, Nat.le_of_ble_eq_true rfl⟩) (va_recv hK hP (ci := 5) (q0 := 0) rfl cM_at0) (Ln.id rfl) hA hK hP hD hS rfl hl.1 rfl rfl (Nat.le_of_ble_eq_true rfl) dX5_tellsOne_69 (fun H locs hP hD hS => ?_)
        refine lv_goto (tgt := 80) hx hb dX5_tellsOne_72 (by decide) ?_
        refine lv_iadd hx hb dX5_tellsOne_80 ?_
        refine lv_iconst (v := 0) hx hb dX5_tellsOne_81 (by decide) ?_
        refine lv_bipush (v := 99) hx hb dX5_tellsOne_82 (by decide +kernel) ?_
        obtain ⟨a_20, ha_20, hf⟩ := bd_e hf
        refine Ct.callS (As := [.int ((q29.2 2 (q29.1).toNatClampNeg) + a_19), .int (0 : Int32), .int (99 : Int32)]) (rest := [.int q29.1, .ref (A 3)]) (st1 := [.int a_20, .int q29.1, .ref (A 3)]) (c_X5_held l D cI  ((q29.2 2 (q29.1).toNatClampNeg) + a_19) (0 : Int32) (99 : Int32) a_20 ha_20) hx hb hml hown hts (va_cwS 3 hts gX5_tellsOne_X5_held rfl rfl rfl hd_X5_held ⟨Nat.le_of_ble_eq_true rfl, Nat.le_of_ble_eq_true rfl⟩) Ln.nil hA hK hP hD hS rfl hl.1 rfl rfl (Nat.le_of_ble_eq_true rfl) dX5_tellsOne_84 (fun H locs hP hD hS => ?_)
        obtain ⟨c_21, hf⟩ := gi_e hf
        refine va_iast hx hb hK hP hD hS 3 0 cM_at3 rfl c_21 dX5_tellsOne_87 (fun H locs hP hD hS => ?_)
        obtain ⟨h_22, eh_22, hf⟩ := nm_e hf
        rw [cM_su3, ← eh_22] at hP hD
        obtain ⟨v_23, ev_23, hf⟩ := nm_e hf
        refine lv_iinc (v := v_23) (lv' := [(2, .int v_23), (0, .ref (A 0)), (1, .int p1)]) hx hb dX5_tellsOne_88 hl (k := 2) rfl (by rw [ev_23]; rfl) (by decide) rfl (fun ls hl => ?_)
        refine lv_goto (tgt := 29) hx hb dX5_tellsOne_91 (by decide) ?_
        exact ih29 (v_23, h_22) hf H locs ls hP hD hS (lv_sub hl [1, 2, 0] rfl)

def f_X5_comes (M : St) (p1 : Int32) : Option (Int32 × St) := fzp (nm ((4 : Int32) * p1) fun v_1 => (gi p1 48 (if (M 9 (p1).toNatClampNeg) = 98 then (gi v_1 192 (bd (f_X5_isMan M (M 11 (v_1).toNatClampNeg)) fun a_5 => (if a_5 = 0 then (some ((0 : Int32), M)) else (gi (v_1 + (1 : Int32)) 192 (bd (f_X5_isShip M (M 11 ((v_1 + (1 : Int32))).toNatClampNeg)) fun a_8 => (if a_8 = 0 then (some ((0 : Int32), M)) else (gi v_1 192 (gi (v_1 + (1 : Int32)) 192 (gi (M 11 (v_1).toNatClampNeg) 8 (nm (su M 7 ((M 11 (v_1).toNatClampNeg)).toNatClampNeg (M 11 ((v_1 + (1 : Int32))).toNatClampNeg)) fun h_13 => (some ((1 : Int32), h_13)))))))))))) else (if (M 9 (p1).toNatClampNeg) = 109 then (bd (f_X5_comesMan M v_1) fun a_15 => (some (a_15.1, a_15.2))) else (if (M 9 (p1).toNatClampNeg) = 115 then (gi v_1 192 (bd (f_X5_comesShip M (M 11 (v_1).toNatClampNeg)) fun a_18 => (some (a_18.1, a_18.2)))) else (if (M 9 (p1).toNatClampNeg) = 116 then (gi v_1 192 (bd (f_X5_canTell M (M 11 (v_1).toNatClampNeg)) fun a_21 => (if a_21 = 0 then (some ((0 : Int32), M)) else (gi v_1 192 (bd (f_X5_tellsOne M (M 11 (v_1).toNatClampNeg)) fun a_24 => (some ((1 : Int32), a_24.2))))))) else (if (M 9 (p1).toNatClampNeg) = 118 then (gi v_1 192 (bd (f_X5_isMan M (M 11 (v_1).toNatClampNeg)) fun a_27 => (if a_27 = 0 then (some ((0 : Int32), M)) else (gi v_1 192 (gi (v_1 + (1 : Int32)) 192 (gi (M 11 (v_1).toNatClampNeg) 8 (nm (su M 6 ((M 11 (v_1).toNatClampNeg)).toNatClampNeg (M 11 ((v_1 + (1 : Int32))).toNatClampNeg)) fun h_32 => (some ((1 : Int32), h_32))))))))) else (gi v_1 192 (bd (f_X5_comesTides M (M 11 (v_1).toNatClampNeg)) fun a_34 => (some (a_34.1, a_34.2)))))))))))
def rm_X5_comes : Room := { frames := 4, cells := 0, slots := 0, locals := 88 }
theorem hd_X5_comes : yX5_comes.cls = RX5 ∧ yX5_comes.cls ≠ "java/lang/invoke/MethodHandle" ∧ yX5_comes.cls ≠ "java/lang/invoke/VarHandle" ∧ (parseMethodDescriptor yX5_comes.desc).map (fun d => d.parameters.length) = some 1 := by decide +kernel
set_option maxRecDepth 100000 in
set_option maxHeartbeats 4000000 in
theorem c_X5_comes (l : Launch) (D : va_G) (cI : ClassId) (A : Nat → Nat) (M : St) (p1 : Int32) (r : Int32 × St) (hf : f_X5_comes M p1 = some r) : Ct l yX5_comes wsX5_comes rm_X5_comes D cI (cM cI A M) (cM cI A r.2) [.ref (A 0), .int p1] (some (.int r.1)) := by
  unfold f_X5_comes at hf
  obtain ⟨hz, hf⟩ := fzp_e hf
  refine Ct.ofZ hz (cc := cX5_comes) (maxL := 3) (by decide +kernel) rfl (Nat.le_of_ble_eq_true rfl) ?_
  intro p e s m args below meth c AA Q H locs ls hx hb hml hown hts hA hK hP hD hS hl hend0
  have hend : ∀ (r1 : Int32 × St) (H : Heap) (locs : List Loc) (pc : Nat) (ls : Array Slot), some r1 = some r → va_P D vwCl (cM cI A r1.2) H → va_S AA s.heap H locs → decode cX5_comes pc = .ok (.ireturn, 1) → W p l e rm_X5_comes s m args below meth c H locs 0 0 Q (F0 m pc ls [.int r1.1]) := by
    intro r1 H locs pc ls e1 hP hS hd; cases e1; exact hend0 H locs pc ls hP hS hd
  clear hend0
  have hw5 : ∀ w ∈ wsX50, w ∈ wsX5_comes := by decide +kernel
  have k28 := hts (.fieldLink RX5 28 "AnchorsForConfessionModel" "sins" "[I") (by decide +kernel)
  have k31 := hts (.fieldLink RX5 31 "AnchorsForConfessionModel" "aboard" "[I") (by decide +kernel)
  have k37 := hts (.fieldLink RX5 37 "AnchorsForConfessionModel" "letter" "[I") (by decide +kernel)
  have k43 := hts (.fieldLink RX5 43 "AnchorsForConfessionModel" "told" "[I") (by decide +kernel)
  replace hl : lv_has ls 3 [(0, .ref (A 0)), (1, .int p1)] := hl
  refine lv_iconst (v := 4) hx hb dX5_comes_0 (by decide) ?_
  refine lv_iload_n hx hb dX5_comes_1 rfl (lv_at hl 1 rfl) ?_
  refine lv_imul hx hb dX5_comes_2 ?_
  refine lv_topi (fun v_1 ev_1 => ?_)
  replace hf := nm_at ev_1 hf
  refine lv_istore_n (lv' := [(2, .int v_1), (0, .ref (A 0)), (1, .int p1)]) hx hb dX5_comes_3 rfl hl (by decide) rfl (fun ls hl => ?_)
  refine lv_aload_n hx hb dX5_comes_4 rfl (lv_at hl 1 rfl) ?_
  refine va_get (D := D) (ci := 5) (v := .ref (A 10)) (C := RX5) (T := TX5) (N := 27) hx hb hts hw5 hown hK hP 0 cM_at0 rfl 13 (by decide) k37 (fun _ h9 => h9) rfl dX5_comes_5 ?_
  refine lv_iload_n hx hb dX5_comes_8 rfl (lv_at hl 2 rfl) ?_
  obtain ⟨c_2, hf⟩ := gi_e hf
  refine va_iald hx hb hK hP 10 0 cM_at10 rfl c_2 dX5_comes_9 ?_
  by_cases c_3 : (M 9 (p1).toNatClampNeg) = 98
  · replace hf := if_t c_3 hf
    refine lv_lookup (off := 95) (tgt := 105) hx hb dX5_comes_10 (by decide) (by rw [c_3]; decide +kernel) (by decide) ?_
    refine lv_aload_n hx hb dX5_comes_105 rfl (lv_at hl 1 rfl) ?_
    refine lv_aload_n hx hb dX5_comes_106 rfl (lv_at hl 1 rfl) ?_
    refine va_get (D := D) (ci := 5) (v := .ref (A 12)) (C := RX5) (T := TX5) (N := 27) hx hb hts hw5 hown hK hP 0 cM_at0 rfl 15 (by decide) k43 (fun _ h9 => h9) rfl dX5_comes_107 ?_
    refine lv_iload_n hx hb dX5_comes_110 rfl (lv_at hl 0 rfl) ?_
    obtain ⟨c_4, hf⟩ := gi_e hf
    refine va_iald hx hb hK hP 12 0 cM_at12 rfl c_4 dX5_comes_111 ?_
    obtain ⟨a_5, ha_5, hf⟩ := bd_e hf
    refine Ct.callV (As := [.int (M 11 (v_1).toNatClampNeg)]) (rest := []) (st1 := [.int a_5]) (c_X5_isMan l D cI A M (M 11 (v_1).toNatClampNeg) a_5 ha_5) hx hb hml hown hts (cwV 1 hts gX5_comes_X5_isMan rfl rfl rfl hd_X5_isMan ⟨Nat.le_of_ble_eq_true rfl, Nat.le_of_ble_eq_true rfl⟩) (va_recv hK hP (ci := 5) (q0 := 0) rfl cM_at0) (Ln.id rfl) hA hK hP hD hS rfl hl.1 rfl rfl (Nat.le_of_ble_eq_true rfl) dX5_comes_112 (fun H locs hP hD hS => ?_)
    refine lv_if_eq (tgt := 133) hx hb dX5_comes_115 (by decide) (fun c_6 => ?_) (fun c_6 => ?_)
    · replace hf := if_t c_6 hf
      refine lv_iconst (v := 0) hx hb dX5_comes_133 (by decide) ?_
      exact hend ((0 : Int32), M) H locs _ _ hf hP hS dX5_comes_134
    · replace hf := if_f c_6 hf
      refine lv_aload_n hx hb dX5_comes_118 rfl (lv_at hl 1 rfl) ?_
      refine lv_aload_n hx hb dX5_comes_119 rfl (lv_at hl 1 rfl) ?_
      refine va_get (D := D) (ci := 5) (v := .ref (A 12)) (C := RX5) (T := TX5) (N := 27) hx hb hts hw5 hown hK hP 0 cM_at0 rfl 15 (by decide) k43 (fun _ h9 => h9) rfl dX5_comes_120 ?_
      refine lv_iload_n hx hb dX5_comes_123 rfl (lv_at hl 0 rfl) ?_
      refine lv_iconst (v := 1) hx hb dX5_comes_124 (by decide) ?_
      refine lv_iadd hx hb dX5_comes_125 ?_
      obtain ⟨c_7, hf⟩ := gi_e hf
      refine va_iald hx hb hK hP 12 0 cM_at12 rfl c_7 dX5_comes_126 ?_
      obtain ⟨a_8, ha_8, hf⟩ := bd_e hf
      refine Ct.callV (As := [.int (M 11 ((v_1 + (1 : Int32))).toNatClampNeg)]) (rest := []) (st1 := [.int a_8]) (c_X5_isShip l D cI A M (M 11 ((v_1 + (1 : Int32))).toNatClampNeg) a_8 ha_8) hx hb hml hown hts (cwV 1 hts gX5_comes_X5_isShip rfl rfl rfl hd_X5_isShip ⟨Nat.le_of_ble_eq_true rfl, Nat.le_of_ble_eq_true rfl⟩) (va_recv hK hP (ci := 5) (q0 := 0) rfl cM_at0) (Ln.id rfl) hA hK hP hD hS rfl hl.1 rfl rfl (Nat.le_of_ble_eq_true rfl) dX5_comes_127 (fun H locs hP hD hS => ?_)
      refine lv_if_ne (tgt := 135) hx hb dX5_comes_130 (by decide) (fun c_9 => ?_) (fun c_9 => ?_)
      · replace hf := if_f c_9 hf
        refine lv_aload_n hx hb dX5_comes_135 rfl (lv_at hl 1 rfl) ?_
        refine va_get (D := D) (ci := 5) (v := .ref (A 8)) (C := RX5) (T := TX5) (N := 27) hx hb hts hw5 hown hK hP 0 cM_at0 rfl 7 (by decide) k31 (fun _ h9 => h9) rfl dX5_comes_136 ?_
        refine lv_aload_n hx hb dX5_comes_139 rfl (lv_at hl 1 rfl) ?_
        refine va_get (D := D) (ci := 5) (v := .ref (A 12)) (C := RX5) (T := TX5) (N := 27) hx hb hts hw5 hown hK hP 0 cM_at0 rfl 15 (by decide) k43 (fun _ h9 => h9) rfl dX5_comes_140 ?_
        refine lv_iload_n hx hb dX5_comes_143 rfl (lv_at hl 0 rfl) ?_
        obtain ⟨c_10, hf⟩ := gi_e hf
        refine va_iald hx hb hK hP 12 0 cM_at12 rfl c_10 dX5_comes_144 ?_
        refine lv_aload_n hx hb dX5_comes_145 rfl (lv_at hl 1 rfl) ?_
        refine va_get (D := D) (ci := 5) (v := .ref (A 12)) (C := RX5) (T := TX5) (N := 27) hx hb hts hw5 hown hK hP 0 cM_at0 rfl 15 (by decide) k43 (fun _ h9 => h9) rfl dX5_comes_146 ?_
        refine lv_iload_n hx hb dX5_comes_149 rfl (lv_at hl 0 rfl) ?_
        refine lv_iconst (v := 1) hx hb dX5_comes_150 (by decide) ?_
        refine lv_iadd hx hb dX5_comes_151 ?_
        obtain ⟨c_11, hf⟩ := gi_e hf
        refine va_iald hx hb hK hP 12 0 cM_at12 rfl c_11 dX5_comes_152 ?_
        obtain ⟨c_12, hf⟩ := gi_e hf
        refine va_iast hx hb hK hP hD hS 8 0 cM_at8 rfl c_12 dX5_comes_153 (fun H locs hP hD hS => ?_)
        obtain ⟨h_13, eh_13, hf⟩ := nm_e hf
        rw [cM_su8, ← eh_13] at hP hD
        refine lv_iconst (v := 1) hx hb dX5_comes_154 (by decide) ?_
        exact hend ((1 : Int32), h_13) H locs _ _ hf hP hS dX5_comes_155
      · replace hf := if_t c_9 hf
        refine lv_iconst (v := 0) hx hb dX5_comes_133 (by decide) ?_
        exact hend ((0 : Int32), M) H locs _ _ hf hP hS dX5_comes_134
  · replace hf := if_f c_3 hf
    by_cases c_14 : (M 9 (p1).toNatClampNeg) = 109
    · replace hf := if_t c_14 hf
      refine lv_lookup (off := 61) (tgt := 71) hx hb dX5_comes_10 (by decide) (by rw [c_14]; decide +kernel) (by decide) ?_
      refine lv_aload_n hx hb dX5_comes_71 rfl (lv_at hl 1 rfl) ?_
      refine lv_iload_n hx hb dX5_comes_72 rfl (lv_at hl 0 rfl) ?_
      obtain ⟨a_15, ha_15, hf⟩ := bd_e hf
      refine Ct.callV (As := [.int v_1]) (rest := []) (st1 := [.int a_15.1]) (c_X5_comesMan l D cI A M v_1 a_15 ha_15) hx hb hml hown hts (cwV 1 hts gX5_comes_X5_comesMan rfl rfl rfl hd_X5_comesMan ⟨Nat.le_of_ble_eq_true rfl, Nat.le_of_ble_eq_true rfl⟩) (va_recv hK hP (ci := 5) (q0 := 0) rfl cM_at0) (Ln.id rfl) hA hK hP hD hS rfl hl.1 rfl rfl (Nat.le_of_ble_eq_true rfl) dX5_comes_73 (fun H locs hP hD hS => ?_)
      replace hP : va_P D vwCl (cM cI A a_15.2) H := hP
      replace hD : va_D AA (cM cI A a_15.2) := hD
      exact hend (a_15.1, a_15.2) H locs _ _ hf hP hS dX5_comes_76
    · replace hf := if_f c_14 hf
      by_cases c_16 : (M 9 (p1).toNatClampNeg) = 115
      · replace hf := if_t c_16 hf
        refine lv_lookup (off := 50) (tgt := 60) hx hb dX5_comes_10 (by decide) (by rw [c_16]; decide +kernel) (by decide) ?_
        refine lv_aload_n hx hb dX5_comes_60 rfl (lv_at hl 1 rfl) ?_
        refine lv_aload_n hx hb dX5_comes_61 rfl (lv_at hl 1 rfl) ?_
        refine va_get (D := D) (ci := 5) (v := .ref (A 12)) (C := RX5) (T := TX5) (N := 27) hx hb hts hw5 hown hK hP 0 cM_at0 rfl 15 (by decide) k43 (fun _ h9 => h9) rfl dX5_comes_62 ?_
        refine lv_iload_n hx hb dX5_comes_65 rfl (lv_at hl 0 rfl) ?_
        obtain ⟨c_17, hf⟩ := gi_e hf
        refine va_iald hx hb hK hP 12 0 cM_at12 rfl c_17 dX5_comes_66 ?_
        obtain ⟨a_18, ha_18, hf⟩ := bd_e hf
        refine Ct.callV (As := [.int (M 11 (v_1).toNatClampNeg)]) (rest := []) (st1 := [.int a_18.1]) (c_X5_comesShip l D cI A M (M 11 (v_1).toNatClampNeg) a_18 ha_18) hx hb hml hown hts (cwV 1 hts gX5_comes_X5_comesShip rfl rfl rfl hd_X5_comesShip ⟨Nat.le_of_ble_eq_true rfl, Nat.le_of_ble_eq_true rfl⟩) (va_recv hK hP (ci := 5) (q0 := 0) rfl cM_at0) (Ln.id rfl) hA hK hP hD hS rfl hl.1 rfl rfl (Nat.le_of_ble_eq_true rfl) dX5_comes_67 (fun H locs hP hD hS => ?_)
        replace hP : va_P D vwCl (cM cI A a_18.2) H := hP
        replace hD : va_D AA (cM cI A a_18.2) := hD
        exact hend (a_18.1, a_18.2) H locs _ _ hf hP hS dX5_comes_70
      · replace hf := if_f c_16 hf
        by_cases c_19 : (M 9 (p1).toNatClampNeg) = 116
        · replace hf := if_t c_19 hf
          refine lv_lookup (off := 67) (tgt := 77) hx hb dX5_comes_10 (by decide) (by rw [c_19]; decide +kernel) (by decide) ?_
          refine lv_aload_n hx hb dX5_comes_77 rfl (lv_at hl 1 rfl) ?_
          refine lv_aload_n hx hb dX5_comes_78 rfl (lv_at hl 1 rfl) ?_
          refine va_get (D := D) (ci := 5) (v := .ref (A 12)) (C := RX5) (T := TX5) (N := 27) hx hb hts hw5 hown hK hP 0 cM_at0 rfl 15 (by decide) k43 (fun _ h9 => h9) rfl dX5_comes_79 ?_
          refine lv_iload_n hx hb dX5_comes_82 rfl (lv_at hl 0 rfl) ?_
          obtain ⟨c_20, hf⟩ := gi_e hf
          refine va_iald hx hb hK hP 12 0 cM_at12 rfl c_20 dX5_comes_83 ?_
          obtain ⟨a_21, ha_21, hf⟩ := bd_e hf
          refine Ct.callV (As := [.int (M 11 (v_1).toNatClampNeg)]) (rest := []) (st1 := [.int a_21]) (c_X5_canTell l D cI A M (M 11 (v_1).toNatClampNeg) a_21 ha_21) hx hb hml hown hts (cwV 1 hts gX5_comes_X5_canTell rfl rfl rfl hd_X5_canTell ⟨Nat.le_of_ble_eq_true rfl, Nat.le_of_ble_eq_true rfl⟩) (va_recv hK hP (ci := 5) (q0 := 0) rfl cM_at0) (Ln.id rfl) hA hK hP hD hS rfl hl.1 rfl rfl (Nat.le_of_ble_eq_true rfl) dX5_comes_84 (fun H locs hP hD hS => ?_)
          refine lv_if_ne (tgt := 92) hx hb dX5_comes_87 (by decide) (fun c_22 => ?_) (fun c_22 => ?_)
          · replace hf := if_f c_22 hf
            refine lv_aload_n hx hb dX5_comes_92 rfl (lv_at hl 1 rfl) ?_
            refine lv_aload_n hx hb dX5_comes_93 rfl (lv_at hl 1 rfl) ?_
            refine va_get (D := D) (ci := 5) (v := .ref (A 12)) (C := RX5) (T := TX5) (N := 27) hx hb hts hw5 hown hK hP 0 cM_at0 rfl 15 (by decide) k43 (fun _ h9 => h9) rfl dX5_comes_94 ?_
            refine lv_iload_n hx hb dX5_comes_97 rfl (lv_at hl 0 rfl) ?_
            obtain ⟨c_23, hf⟩ := gi_e hf
            refine va_iald hx hb hK hP 12 0 cM_at12 rfl c_23 dX5_comes_98 ?_
            obtain ⟨a_24, ha_24, hf⟩ := bd_e hf
            refine Ct.callV (As := [.int (M 11 (v_1).toNatClampNeg)]) (rest := []) (st1 := [.int a_24.1]) (c_X5_tellsOne l D cI A M (M 11 (v_1).toNatClampNeg) a_24 ha_24) hx hb hml hown hts (cwV 1 hts gX5_comes_X5_tellsOne rfl rfl rfl hd_X5_tellsOne ⟨Nat.le_of_ble_eq_true rfl, Nat.le_of_ble_eq_true rfl⟩) (va_recv hK hP (ci := 5) (q0 := 0) rfl cM_at0) (Ln.id rfl) hA hK hP hD hS rfl hl.1 rfl rfl (Nat.le_of_ble_eq_true rfl) dX5_comes_99 (fun H locs hP hD hS => ?_)
            replace hP : va_P D vwCl (cM cI A a_24.2) H := hP
            replace hD : va_D AA (cM cI A a_24.2) := hD
            refine lv_pop hx hb dX5_comes_102 rfl ?_
            refine lv_iconst (v := 1) hx hb dX5_comes_103 (by decide) ?_
            exact hend ((1 : Int32), a_24.2) H locs _ _ hf hP hS dX5_comes_104
          · replace hf := if_t c_22 hf
            refine lv_iconst (v := 0) hx hb dX5_comes_90 (by decide) ?_
            exact hend ((0 : Int32), M) H locs _ _ hf hP hS dX5_comes_91
        · replace hf := if_f c_19 hf
          by_cases c_25 : (M 9 (p1).toNatClampNeg) = 118
          · replace hf := if_t c_25 hf
            refine lv_lookup (off := 146) (tgt := 156) hx hb dX5_comes_10 (by decide) (by rw [c_25]; decide +kernel) (by decide) ?_
            refine lv_aload_n hx hb dX5_comes_156 rfl (lv_at hl 1 rfl) ?_
            refine lv_aload_n hx hb dX5_comes_157 rfl (lv_at hl 1 rfl) ?_
            refine va_get (D := D) (ci := 5) (v := .ref (A 12)) (C := RX5) (T := TX5) (N := 27) hx hb hts hw5 hown hK hP 0 cM_at0 rfl 15 (by decide) k43 (fun _ h9 => h9) rfl dX5_comes_158 ?_
            refine lv_iload_n hx hb dX5_comes_161 rfl (lv_at hl 0 rfl) ?_
            obtain ⟨c_26, hf⟩ := gi_e hf
            refine va_iald hx hb hK hP 12 0 cM_at12 rfl c_26 dX5_comes_162 ?_
            obtain ⟨a_27, ha_27, hf⟩ := bd_e hf
            refine Ct.callV (As := [.int (M 11 (v_1).toNatClampNeg)]) (rest := []) (st1 := [.int a_27]) (c_X5_isMan l D cI A M (M 11 (v_1).toNatClampNeg) a_27 ha_27) hx hb hml hown hts (cwV 1 hts gX5_comes_X5_isMan rfl rfl rfl hd_X5_isMan ⟨Nat.le_of_ble_eq_true rfl, Nat.le_of_ble_eq_true rfl⟩) (va_recv hK hP (ci := 5) (q0 := 0) rfl cM_at0) (Ln.id rfl) hA hK hP hD hS rfl hl.1 rfl rfl (Nat.le_of_ble_eq_true rfl) dX5_comes_163 (fun H locs hP hD hS => ?_)
            refine lv_if_ne (tgt := 171) hx hb dX5_comes_166 (by decide) (fun c_28 => ?_) (fun c_28 => ?_)
            · replace hf := if_f c_28 hf
              refine lv_aload_n hx hb dX5_comes_171 rfl (lv_at hl 1 rfl) ?_
              refine va_get (D := D) (ci := 5) (v := .ref (A 7)) (C := RX5) (T := TX5) (N := 27) hx hb hts hw5 hown hK hP 0 cM_at0 rfl 6 (by decide) k28 (fun _ h9 => h9) rfl dX5_comes_172 ?_
              refine lv_aload_n hx hb dX5_comes_175 rfl (lv_at hl 1 rfl) ?_
              refine va_get (D := D) (ci := 5) (v := .ref (A 12)) (C := RX5) (T := TX5) (N := 27) hx hb hts hw5 hown hK hP 0 cM_at0 rfl 15 (by decide) k43 (fun _ h9 => h9) rfl dX5_comes_176 ?_
              refine lv_iload_n hx hb dX5_comes_179 rfl (lv_at hl 0 rfl) ?_
              obtain ⟨c_29, hf⟩ := gi_e hf
              refine va_iald hx hb hK hP 12 0 cM_at12 rfl c_29 dX5_comes_180 ?_
              refine lv_aload_n hx hb dX5_comes_181 rfl (lv_at hl 1 rfl) ?_
              refine va_get (D := D) (ci := 5) (v := .ref (A 12)) (C := RX5) (T := TX5) (N := 27) hx hb hts hw5 hown hK hP 0 cM_at0 rfl 15 (by decide) k43 (fun _ h9 => h9) rfl dX5_comes_182 ?_
              refine lv_iload_n hx hb dX5_comes_185 rfl (lv_at hl 0 rfl) ?_
              refine lv_iconst (v := 1) hx hb dX5_comes_186 (by decide) ?_
              refine lv_iadd hx hb dX5_comes_187 ?_
              obtain ⟨c_30, hf⟩ := gi_e hf
              refine va_iald hx hb hK hP 12 0 cM_at12 rfl c_30 dX5_comes_188 ?_
              obtain ⟨c_31, hf⟩ := gi_e hf
              refine va_iast hx hb hK hP hD hS 7 0 cM_at7 rfl c_31 dX5_comes_189 (fun H locs hP hD hS => ?_)
              obtain ⟨h_32, eh_32, hf⟩ := nm_e hf
              rw [cM_su7, ← eh_32] at hP hD
              refine lv_iconst (v := 1) hx hb dX5_comes_190 (by decide) ?_
              exact hend ((1 : Int32), h_32) H locs _ _ hf hP hS dX5_comes_191
            · replace hf := if_t c_28 hf
              refine lv_iconst (v := 0) hx hb dX5_comes_169 (by decide) ?_
              exact hend ((0 : Int32), M) H locs _ _ hf hP hS dX5_comes_170
          · replace hf := if_f c_25 hf
            refine lv_lookup (off := 182) (tgt := 192) hx hb dX5_comes_10 (by decide) (by show Op.lookupswitch.offset [(98, 95), (109, 61), (115, 50), (116, 67), (118, 146)] 182 _ = _; rw [lv_osw c_3 (by decide +kernel), lv_osw c_14 (by decide +kernel), lv_osw c_16 (by decide +kernel), lv_osw c_19 (by decide +kernel), lv_osw c_25 (by decide +kernel)]; rfl) (by decide) ?_
            refine lv_aload_n hx hb dX5_comes_192 rfl (lv_at hl 1 rfl) ?_
            refine lv_aload_n hx hb dX5_comes_193 rfl (lv_at hl 1 rfl) ?_
            refine va_get (D := D) (ci := 5) (v := .ref (A 12)) (C := RX5) (T := TX5) (N := 27) hx hb hts hw5 hown hK hP 0 cM_at0 rfl 15 (by decide) k43 (fun _ h9 => h9) rfl dX5_comes_194 ?_
            refine lv_iload_n hx hb dX5_comes_197 rfl (lv_at hl 0 rfl) ?_
            obtain ⟨c_33, hf⟩ := gi_e hf
            refine va_iald hx hb hK hP 12 0 cM_at12 rfl c_33 dX5_comes_198 ?_
            obtain ⟨a_34, ha_34, hf⟩ := bd_e hf
            refine Ct.callV (As := [.int (M 11 (v_1).toNatClampNeg)]) (rest := []) (st1 := [.int a_34.1]) (c_X5_comesTides l D cI A M (M 11 (v_1).toNatClampNeg) a_34 ha_34) hx hb hml hown hts (cwV 1 hts gX5_comes_X5_comesTides rfl rfl rfl hd_X5_comesTides ⟨Nat.le_of_ble_eq_true rfl, Nat.le_of_ble_eq_true rfl⟩) (va_recv hK hP (ci := 5) (q0 := 0) rfl cM_at0) (Ln.id rfl) hA hK hP hD hS rfl hl.1 rfl rfl (Nat.le_of_ble_eq_true rfl) dX5_comes_199 (fun H locs hP hD hS => ?_)
            replace hP : va_P D vwCl (cM cI A a_34.2) H := hP
            replace hD : va_D AA (cM cI A a_34.2) := hD
            exact hend (a_34.1, a_34.2) H locs _ _ hf hP hS dX5_comes_202

def f_X5_passes_a2 (M : St) : Option (St) := (lp (fun (nx2 : (Int32 × St) → Option (St)) (q2 : Int32 × St) => (if (5 : Int32) ≤ q2.1 then (some q2.2) else (if (q2.2 16 8) = 0 then (gi (q2.2 16 9) 153 (gi q2.1 5 (nm (su q2.2 1 (q2.1).toNatClampNeg (q2.2 12 ((q2.2 16 9)).toNatClampNeg)) fun h_5 => (nm (su h_5 16 9 ((h_5 16 9) + (1 : Int32))) fun h_6 => (nm (q2.1 + (1 : Int32)) fun v_7 => (nx2 (v_7, h_6))))))) else (gi q2.1 5 (gi (q2.2 16 9) 153 (nm (su q2.2 12 ((q2.2 16 9)).toNatClampNeg (q2.2 1 (q2.1).toNatClampNeg)) fun h_10 => (nm (su h_10 16 9 ((h_10 16 9) + (1 : Int32))) fun h_11 => (nm (q2.1 + (1 : Int32)) fun v_12 => (nx2 (v_12, h_11)))))))))) 1000 ((0 : Int32), M))
def rm_X5_passes_a2 : Room := { frames := 0, cells := 0, slots := 0, locals := 0 }
theorem hd_X5_passes : yX5_passes.cls = RX5 ∧ yX5_passes.cls ≠ "java/lang/invoke/MethodHandle" ∧ yX5_passes.cls ≠ "java/lang/invoke/VarHandle" ∧ (parseMethodDescriptor yX5_passes.desc).map (fun d => d.parameters.length) = some 1 := by decide +kernel
set_option maxRecDepth 100000 in
set_option maxHeartbeats 4000000 in
theorem c_X5_passes_a2 (l : Launch) (D : va_G) (cI : ClassId) (A : Nat → Nat) (M : St) (r : St) (hf : f_X5_passes_a2 M = some r) : Ct l yX5_passes wsX5_passes rm_X5_passes_a2 D cI (cM cI A M) (cM cI A r) [.ref (A 0), .ref (A 2)] none := by
  unfold f_X5_passes_a2 at hf
  refine Ct.ofV (cc := cX5_passes) (maxL := 3) (by decide +kernel) rfl (Nat.le_of_ble_eq_true rfl) ?_
  intro p e s m args below meth c AA Q H locs ls hx hb hml hown hts hA hK hP hD hS hl hend0
  have hend : ∀ (r1 : St) (H : Heap) (locs : List Loc) (pc : Nat) (ls : Array Slot), some r1 = some r → va_P D vwCl (cM cI A r1) H → va_S AA s.heap H locs → decode cX5_passes pc = .ok (.return_, 1) → W p l e rm_X5_passes_a2 s m args below meth c H locs 0 0 Q (F0 m pc ls []) := by
    intro r1 H locs pc ls e1 hP hS hd; cases e1; exact hend0 H locs pc ls hP hS hd
  clear hend0
  have hw5 : ∀ w ∈ wsX50, w ∈ wsX5_passes := by decide +kernel
  have k46 := hts (.fieldLink RX5 46 "AnchorsForConfessionModel" "kept" "[I") (by decide +kernel)
  have k146 := hts (.fieldLink RX5 146 "AnchorsForConfessionModel" "isKeeping" "Z") (by decide +kernel)
  have k150 := hts (.fieldLink RX5 150 "AnchorsForConfessionModel" "cursor" "I") (by decide +kernel)
  replace hl : lv_has ls 3 [(0, .ref (A 0)), (1, .ref (A 2))] := hl
  refine lv_iconst (v := 0) hx hb dX5_passes_0 (by decide) ?_
  refine lv_istore_n (lv' := [(2, .int (0 : Int32)), (0, .ref (A 0)), (1, .ref (A 2))]) hx hb dX5_passes_1 rfl hl (by decide) rfl (fun ls hl => ?_)
  refine lp_ind (P := fun (q2 : Int32 × St) => ∀ (H : Heap) (locs : List Loc) (ls : Array Slot), va_P D vwCl (cM cI A q2.2) H → va_D AA (cM cI A q2.2) → va_S AA s.heap H locs → lv_has ls 3 [(0, .ref (A 0)), (1, .ref (A 2)), (2, .int q2.1)] → W p l e rm_X5_passes_a2 s m args below meth c H locs 0 0 Q (F0 m 2 ls [])) hf ?_ H locs ls hP hD hS (lv_sub hl [1, 2, 0] rfl)
  clear hf hP hD hS hl
  intro nx2 ih2 q2 hf H locs ls hP hD hS hl
  refine lv_iload_n hx hb dX5_passes_2 rfl (lv_at hl 2 rfl) ?_
  refine lv_aload_n hx hb dX5_passes_3 rfl (lv_at hl 1 rfl) ?_
  refine va_alen hx hb hK hP 2 0 cM_at2 rfl (v := 5) (by decide +kernel) dX5_passes_4 ?_
  refine lv_icmp_ge (tgt := 58) hx hb dX5_passes_5 (by decide) (fun c_1 => ?_) (fun c_1 => ?_)
  · replace hf := if_t c_1 hf
    exact hend q2.2 H locs _ _ hf hP hS dX5_passes_58
  · replace hf := if_f c_1 hf
    refine lv_aload_n hx hb dX5_passes_8 rfl (lv_at hl 0 rfl) ?_
    refine va_get (D := D) (ci := 5) (v := .int (q2.2 16 8)) (C := RX5) (T := TX5) (N := 27) hx hb hts hw5 hown hK hP 0 cM_at0 rfl 21 (by decide) k146 (fun _ h9 => h9) rfl dX5_passes_9 ?_
    refine lv_if_eq (tgt := 30) hx hb dX5_passes_12 (by decide) (fun c_2 => ?_) (fun c_2 => ?_)
    · replace hf := if_t c_2 hf
      refine lv_aload_n hx hb dX5_passes_30 rfl (lv_at hl 1 rfl) ?_
      refine lv_iload_n hx hb dX5_passes_31 rfl (lv_at hl 2 rfl) ?_
      refine lv_aload_n hx hb dX5_passes_32 rfl (lv_at hl 0 rfl) ?_
      refine va_get (D := D) (ci := 5) (v := .ref (A 13)) (C := RX5) (T := TX5) (N := 27) hx hb hts hw5 hown hK hP 0 cM_at0 rfl 19 (by decide) k46 (fun _ h9 => h9) rfl dX5_passes_33 ?_
      refine lv_aload_n hx hb dX5_passes_36 rfl (lv_at hl 0 rfl) ?_
      refine va_get (D := D) (ci := 5) (v := .int (q2.2 16 9)) (C := RX5) (T := TX5) (N := 27) hx hb hts hw5 hown hK hP 0 cM_at0 rfl 22 (by decide) k150 (fun _ h9 => h9) rfl dX5_passes_37 ?_
      obtain ⟨c_3, hf⟩ := gi_e hf
      refine va_iald hx hb hK hP 13 0 cM_at13 rfl c_3 dX5_passes_40 ?_
      obtain ⟨c_4, hf⟩ := gi_e hf
      refine va_iast hx hb hK hP hD hS 2 0 cM_at2 rfl c_4 dX5_passes_41 (fun H locs hP hD hS => ?_)
      obtain ⟨h_5, eh_5, hf⟩ := nm_e hf
      rw [cM_su2, ← eh_5] at hP hD
      refine lv_aload_n hx hb dX5_passes_42 rfl (lv_at hl 0 rfl) ?_
      refine lv_dup hx hb dX5_passes_43 rfl ?_
      refine va_get (D := D) (ci := 5) (v := .int (h_5 16 9)) (C := RX5) (T := TX5) (N := 27) hx hb hts hw5 hown hK hP 0 cM_at0 rfl 22 (by decide) k150 (fun _ h9 => h9) rfl dX5_passes_44 ?_
      refine lv_iconst (v := 1) hx hb dX5_passes_47 (by decide) ?_
      refine lv_iadd hx hb dX5_passes_48 ?_
      refine va_put (D := D) (ci := 5) (v := .int ((h_5 16 9) + (1 : Int32))) (ty := .int) (C := RX5) (T := TX5) (N := 27) hx hb hts hw5 tyX5 tyX5_ok nmX5 hown hK hP hD hS 0 cM_at0 rfl 22 (by decide) k150 (fun _ h9 => h9) rfl (tyX5_ok 22 (by decide)) rfl rfl (Nat.le_of_ble_eq_true rfl) dX5_passes_49 (fun H locs hP hD hS => ?_)
      obtain ⟨h_6, eh_6, hf⟩ := nm_e hf
      rw [cM_sc0_22, ← eh_6] at hP hD
      obtain ⟨v_7, ev_7, hf⟩ := nm_e hf
      refine lv_iinc (v := v_7) (lv' := [(2, .int v_7), (0, .ref (A 0)), (1, .ref (A 2))]) hx hb dX5_passes_52 hl (k := 2) rfl (by rw [ev_7]; rfl) (by decide) rfl (fun ls hl => ?_)
      refine lv_goto (tgt := 2) hx hb dX5_passes_55 (by decide) ?_
      exact ih2 (v_7, h_6) hf H locs ls hP hD hS (lv_sub hl [1, 2, 0] rfl)
    · replace hf := if_f c_2 hf
      refine lv_aload_n hx hb dX5_passes_15 rfl (lv_at hl 0 rfl) ?_
      refine va_get (D := D) (ci := 5) (v := .ref (A 13)) (C := RX5) (T := TX5) (N := 27) hx hb hts hw5 hown hK hP 0 cM_at0 rfl 19 (by decide) k46 (fun _ h9 => h9) rfl dX5_passes_16 ?_
      refine lv_aload_n hx hb dX5_passes_19 rfl (lv_at hl 0 rfl) ?_
      refine va_get (D := D) (ci := 5) (v := .int (q2.2 16 9)) (C := RX5) (T := TX5) (N := 27) hx hb hts hw5 hown hK hP 0 cM_at0 rfl 22 (by decide) k150 (fun _ h9 => h9) rfl dX5_passes_20 ?_
      refine lv_aload_n hx hb dX5_passes_23 rfl (lv_at hl 1 rfl) ?_
      refine lv_iload_n hx hb dX5_passes_24 rfl (lv_at hl 2 rfl) ?_
      obtain ⟨c_8, hf⟩ := gi_e hf
      refine va_iald hx hb hK hP 2 0 cM_at2 rfl c_8 dX5_passes_25 ?_
      obtain ⟨c_9, hf⟩ := gi_e hf
      refine va_iast hx hb hK hP hD hS 13 0 cM_at13 rfl c_9 dX5_passes_26 (fun H locs hP hD hS => ?_)
      obtain ⟨h_10, eh_10, hf⟩ := nm_e hf
      rw [cM_su13, ← eh_10] at hP hD
      refine lv_goto (tgt := 42) hx hb dX5_passes_27 (by decide) ?_
      refine lv_aload_n hx hb dX5_passes_42 rfl (lv_at hl 0 rfl) ?_
      refine lv_dup hx hb dX5_passes_43 rfl ?_
      refine va_get (D := D) (ci := 5) (v := .int (h_10 16 9)) (C := RX5) (T := TX5) (N := 27) hx hb hts hw5 hown hK hP 0 cM_at0 rfl 22 (by decide) k150 (fun _ h9 => h9) rfl dX5_passes_44 ?_
      refine lv_iconst (v := 1) hx hb dX5_passes_47 (by decide) ?_
      refine lv_iadd hx hb dX5_passes_48 ?_
      refine va_put (D := D) (ci := 5) (v := .int ((h_10 16 9) + (1 : Int32))) (ty := .int) (C := RX5) (T := TX5) (N := 27) hx hb hts hw5 tyX5 tyX5_ok nmX5 hown hK hP hD hS 0 cM_at0 rfl 22 (by decide) k150 (fun _ h9 => h9) rfl (tyX5_ok 22 (by decide)) rfl rfl (Nat.le_of_ble_eq_true rfl) dX5_passes_49 (fun H locs hP hD hS => ?_)
      obtain ⟨h_11, eh_11, hf⟩ := nm_e hf
      rw [cM_sc0_22, ← eh_11] at hP hD
      obtain ⟨v_12, ev_12, hf⟩ := nm_e hf
      refine lv_iinc (v := v_12) (lv' := [(2, .int v_12), (0, .ref (A 0)), (1, .ref (A 2))]) hx hb dX5_passes_52 hl (k := 2) rfl (by rw [ev_12]; rfl) (by decide) rfl (fun ls hl => ?_)
      refine lv_goto (tgt := 2) hx hb dX5_passes_55 (by decide) ?_
      exact ih2 (v_12, h_11) hf H locs ls hP hD hS (lv_sub hl [1, 2, 0] rfl)

def f_X5_passes_a3 (M : St) : Option (St) := (lp (fun (nx2 : (Int32 × St) → Option (St)) (q2 : Int32 × St) => (if (5 : Int32) ≤ q2.1 then (some q2.2) else (if (q2.2 16 8) = 0 then (gi (q2.2 16 9) 153 (gi q2.1 5 (nm (su q2.2 2 (q2.1).toNatClampNeg (q2.2 12 ((q2.2 16 9)).toNatClampNeg)) fun h_5 => (nm (su h_5 16 9 ((h_5 16 9) + (1 : Int32))) fun h_6 => (nm (q2.1 + (1 : Int32)) fun v_7 => (nx2 (v_7, h_6))))))) else (gi q2.1 5 (gi (q2.2 16 9) 153 (nm (su q2.2 12 ((q2.2 16 9)).toNatClampNeg (q2.2 2 (q2.1).toNatClampNeg)) fun h_10 => (nm (su h_10 16 9 ((h_10 16 9) + (1 : Int32))) fun h_11 => (nm (q2.1 + (1 : Int32)) fun v_12 => (nx2 (v_12, h_11)))))))))) 1000 ((0 : Int32), M))
def rm_X5_passes_a3 : Room := { frames := 0, cells := 0, slots := 0, locals := 0 }
set_option maxRecDepth 100000 in
set_option maxHeartbeats 4000000 in
theorem c_X5_passes_a3 (l : Launch) (D : va_G) (cI : ClassId) (A : Nat → Nat) (M : St) (r : St) (hf : f_X5_passes_a3 M = some r) : Ct l yX5_passes wsX5_passes rm_X5_passes_a3 D cI (cM cI A M) (cM cI A r) [.ref (A 0), .ref (A 3)] none := by
  unfold f_X5_passes_a3 at hf
  refine Ct.ofV (cc := cX5_passes) (maxL := 3) (by decide +kernel) rfl (Nat.le_of_ble_eq_true rfl) ?_
  intro p e s m args below meth c AA Q H locs ls hx hb hml hown hts hA hK hP hD hS hl hend0
  have hend : ∀ (r1 : St) (H : Heap) (locs : List Loc) (pc : Nat) (ls : Array Slot), some r1 = some r → va_P D vwCl (cM cI A r1) H → va_S AA s.heap H locs → decode cX5_passes pc = .ok (.return_, 1) → W p l e rm_X5_passes_a3 s m args below meth c H locs 0 0 Q (F0 m pc ls []) := by
    intro r1 H locs pc ls e1 hP hS hd; cases e1; exact hend0 H locs pc ls hP hS hd
  clear hend0
  have hw5 : ∀ w ∈ wsX50, w ∈ wsX5_passes := by decide +kernel
  have k46 := hts (.fieldLink RX5 46 "AnchorsForConfessionModel" "kept" "[I") (by decide +kernel)
  have k146 := hts (.fieldLink RX5 146 "AnchorsForConfessionModel" "isKeeping" "Z") (by decide +kernel)
  have k150 := hts (.fieldLink RX5 150 "AnchorsForConfessionModel" "cursor" "I") (by decide +kernel)
  replace hl : lv_has ls 3 [(0, .ref (A 0)), (1, .ref (A 3))] := hl
  refine lv_iconst (v := 0) hx hb dX5_passes_0 (by decide) ?_
  refine lv_istore_n (lv' := [(2, .int (0 : Int32)), (0, .ref (A 0)), (1, .ref (A 3))]) hx hb dX5_passes_1 rfl hl (by decide) rfl (fun ls hl => ?_)
  refine lp_ind (P := fun (q2 : Int32 × St) => ∀ (H : Heap) (locs : List Loc) (ls : Array Slot), va_P D vwCl (cM cI A q2.2) H → va_D AA (cM cI A q2.2) → va_S AA s.heap H locs → lv_has ls 3 [(0, .ref (A 0)), (1, .ref (A 3)), (2, .int q2.1)] → W p l e rm_X5_passes_a3 s m args below meth c H locs 0 0 Q (F0 m 2 ls [])) hf ?_ H locs ls hP hD hS (lv_sub hl [1, 2, 0] rfl)
  clear hf hP hD hS hl
  intro nx2 ih2 q2 hf H locs ls hP hD hS hl
  refine lv_iload_n hx hb dX5_passes_2 rfl (lv_at hl 2 rfl) ?_
  refine lv_aload_n hx hb dX5_passes_3 rfl (lv_at hl 1 rfl) ?_
  refine va_alen hx hb hK hP 3 0 cM_at3 rfl (v := 5) (by decide +kernel) dX5_passes_4 ?_
  refine lv_icmp_ge (tgt := 58) hx hb dX5_passes_5 (by decide) (fun c_1 => ?_) (fun c_1 => ?_)
  · replace hf := if_t c_1 hf
    exact hend q2.2 H locs _ _ hf hP hS dX5_passes_58
  · replace hf := if_f c_1 hf
    refine lv_aload_n hx hb dX5_passes_8 rfl (lv_at hl 0 rfl) ?_
    refine va_get (D := D) (ci := 5) (v := .int (q2.2 16 8)) (C := RX5) (T := TX5) (N := 27) hx hb hts hw5 hown hK hP 0 cM_at0 rfl 21 (by decide) k146 (fun _ h9 => h9) rfl dX5_passes_9 ?_
    refine lv_if_eq (tgt := 30) hx hb dX5_passes_12 (by decide) (fun c_2 => ?_) (fun c_2 => ?_)
    · replace hf := if_t c_2 hf
      refine lv_aload_n hx hb dX5_passes_30 rfl (lv_at hl 1 rfl) ?_
      refine lv_iload_n hx hb dX5_passes_31 rfl (lv_at hl 2 rfl) ?_
      refine lv_aload_n hx hb dX5_passes_32 rfl (lv_at hl 0 rfl) ?_
      refine va_get (D := D) (ci := 5) (v := .ref (A 13)) (C := RX5) (T := TX5) (N := 27) hx hb hts hw5 hown hK hP 0 cM_at0 rfl 19 (by decide) k46 (fun _ h9 => h9) rfl dX5_passes_33 ?_
      refine lv_aload_n hx hb dX5_passes_36 rfl (lv_at hl 0 rfl) ?_
      refine va_get (D := D) (ci := 5) (v := .int (q2.2 16 9)) (C := RX5) (T := TX5) (N := 27) hx hb hts hw5 hown hK hP 0 cM_at0 rfl 22 (by decide) k150 (fun _ h9 => h9) rfl dX5_passes_37 ?_
      obtain ⟨c_3, hf⟩ := gi_e hf
      refine va_iald hx hb hK hP 13 0 cM_at13 rfl c_3 dX5_passes_40 ?_
      obtain ⟨c_4, hf⟩ := gi_e hf
      refine va_iast hx hb hK hP hD hS 3 0 cM_at3 rfl c_4 dX5_passes_41 (fun H locs hP hD hS => ?_)
      obtain ⟨h_5, eh_5, hf⟩ := nm_e hf
      rw [cM_su3, ← eh_5] at hP hD
      refine lv_aload_n hx hb dX5_passes_42 rfl (lv_at hl 0 rfl) ?_
      refine lv_dup hx hb dX5_passes_43 rfl ?_
      refine va_get (D := D) (ci := 5) (v := .int (h_5 16 9)) (C := RX5) (T := TX5) (N := 27) hx hb hts hw5 hown hK hP 0 cM_at0 rfl 22 (by decide) k150 (fun _ h9 => h9) rfl dX5_passes_44 ?_
      refine lv_iconst (v := 1) hx hb dX5_passes_47 (by decide) ?_
      refine lv_iadd hx hb dX5_passes_48 ?_
      refine va_put (D := D) (ci := 5) (v := .int ((h_5 16 9) + (1 : Int32))) (ty := .int) (C := RX5) (T := TX5) (N := 27) hx hb hts hw5 tyX5 tyX5_ok nmX5 hown hK hP hD hS 0 cM_at0 rfl 22 (by decide) k150 (fun _ h9 => h9) rfl (tyX5_ok 22 (by decide)) rfl rfl (Nat.le_of_ble_eq_true rfl) dX5_passes_49 (fun H locs hP hD hS => ?_)
      obtain ⟨h_6, eh_6, hf⟩ := nm_e hf
      rw [cM_sc0_22, ← eh_6] at hP hD
      obtain ⟨v_7, ev_7, hf⟩ := nm_e hf
      refine lv_iinc (v := v_7) (lv' := [(2, .int v_7), (0, .ref (A 0)), (1, .ref (A 3))]) hx hb dX5_passes_52 hl (k := 2) rfl (by rw [ev_7]; rfl) (by decide) rfl (fun ls hl => ?_)
      refine lv_goto (tgt := 2) hx hb dX5_passes_55 (by decide) ?_
      exact ih2 (v_7, h_6) hf H locs ls hP hD hS (lv_sub hl [1, 2, 0] rfl)
    · replace hf := if_f c_2 hf
      refine lv_aload_n hx hb dX5_passes_15 rfl (lv_at hl 0 rfl) ?_
      refine va_get (D := D) (ci := 5) (v := .ref (A 13)) (C := RX5) (T := TX5) (N := 27) hx hb hts hw5 hown hK hP 0 cM_at0 rfl 19 (by decide) k46 (fun _ h9 => h9) rfl dX5_passes_16 ?_
      refine lv_aload_n hx hb dX5_passes_19 rfl (lv_at hl 0 rfl) ?_
      refine va_get (D := D) (ci := 5) (v := .int (q2.2 16 9)) (C := RX5) (T := TX5) (N := 27) hx hb hts hw5 hown hK hP 0 cM_at0 rfl 22 (by decide) k150 (fun _ h9 => h9) rfl dX5_passes_20 ?_
      refine lv_aload_n hx hb dX5_passes_23 rfl (lv_at hl 1 rfl) ?_
      refine lv_iload_n hx hb dX5_passes_24 rfl (lv_at hl 2 rfl) ?_
      obtain ⟨c_8, hf⟩ := gi_e hf
      refine va_iald hx hb hK hP 3 0 cM_at3 rfl c_8 dX5_passes_25 ?_
      obtain ⟨c_9, hf⟩ := gi_e hf
      refine va_iast hx hb hK hP hD hS 13 0 cM_at13 rfl c_9 dX5_passes_26 (fun H locs hP hD hS => ?_)
      obtain ⟨h_10, eh_10, hf⟩ := nm_e hf
      rw [cM_su13, ← eh_10] at hP hD
      refine lv_goto (tgt := 42) hx hb dX5_passes_27 (by decide) ?_
      refine lv_aload_n hx hb dX5_passes_42 rfl (lv_at hl 0 rfl) ?_
      refine lv_dup hx hb dX5_passes_43 rfl ?_
      refine va_get (D := D) (ci := 5) (v := .int (h_10 16 9)) (C := RX5) (T := TX5) (N := 27) hx hb hts hw5 hown hK hP 0 cM_at0 rfl 22 (by decide) k150 (fun _ h9 => h9) rfl dX5_passes_44 ?_
      refine lv_iconst (v := 1) hx hb dX5_passes_47 (by decide) ?_
      refine lv_iadd hx hb dX5_passes_48 ?_
      refine va_put (D := D) (ci := 5) (v := .int ((h_10 16 9) + (1 : Int32))) (ty := .int) (C := RX5) (T := TX5) (N := 27) hx hb hts hw5 tyX5 tyX5_ok nmX5 hown hK hP hD hS 0 cM_at0 rfl 22 (by decide) k150 (fun _ h9 => h9) rfl (tyX5_ok 22 (by decide)) rfl rfl (Nat.le_of_ble_eq_true rfl) dX5_passes_49 (fun H locs hP hD hS => ?_)
      obtain ⟨h_11, eh_11, hf⟩ := nm_e hf
      rw [cM_sc0_22, ← eh_11] at hP hD
      obtain ⟨v_12, ev_12, hf⟩ := nm_e hf
      refine lv_iinc (v := v_12) (lv' := [(2, .int v_12), (0, .ref (A 0)), (1, .ref (A 3))]) hx hb dX5_passes_52 hl (k := 2) rfl (by rw [ev_12]; rfl) (by decide) rfl (fun ls hl => ?_)
      refine lv_goto (tgt := 2) hx hb dX5_passes_55 (by decide) ?_
      exact ih2 (v_12, h_11) hf H locs ls hP hD hS (lv_sub hl [1, 2, 0] rfl)

def f_X5_passes_a4 (M : St) : Option (St) := (lp (fun (nx2 : (Int32 × St) → Option (St)) (q2 : Int32 × St) => (if (5 : Int32) ≤ q2.1 then (some q2.2) else (if (q2.2 16 8) = 0 then (gi (q2.2 16 9) 153 (gi q2.1 5 (nm (su q2.2 3 (q2.1).toNatClampNeg (q2.2 12 ((q2.2 16 9)).toNatClampNeg)) fun h_5 => (nm (su h_5 16 9 ((h_5 16 9) + (1 : Int32))) fun h_6 => (nm (q2.1 + (1 : Int32)) fun v_7 => (nx2 (v_7, h_6))))))) else (gi q2.1 5 (gi (q2.2 16 9) 153 (nm (su q2.2 12 ((q2.2 16 9)).toNatClampNeg (q2.2 3 (q2.1).toNatClampNeg)) fun h_10 => (nm (su h_10 16 9 ((h_10 16 9) + (1 : Int32))) fun h_11 => (nm (q2.1 + (1 : Int32)) fun v_12 => (nx2 (v_12, h_11)))))))))) 1000 ((0 : Int32), M))
def rm_X5_passes_a4 : Room := { frames := 0, cells := 0, slots := 0, locals := 0 }
set_option maxRecDepth 100000 in
set_option maxHeartbeats 4000000 in
theorem c_X5_passes_a4 (l : Launch) (D : va_G) (cI : ClassId) (A : Nat → Nat) (M : St) (r : St) (hf : f_X5_passes_a4 M = some r) : Ct l yX5_passes wsX5_passes rm_X5_passes_a4 D cI (cM cI A M) (cM cI A r) [.ref (A 0), .ref (A 4)] none := by
  unfold f_X5_passes_a4 at hf
  refine Ct.ofV (cc := cX5_passes) (maxL := 3) (by decide +kernel) rfl (Nat.le_of_ble_eq_true rfl) ?_
  intro p e s m args below meth c AA Q H locs ls hx hb hml hown hts hA hK hP hD hS hl hend0
  have hend : ∀ (r1 : St) (H : Heap) (locs : List Loc) (pc : Nat) (ls : Array Slot), some r1 = some r → va_P D vwCl (cM cI A r1) H → va_S AA s.heap H locs → decode cX5_passes pc = .ok (.return_, 1) → W p l e rm_X5_passes_a4 s m args below meth c H locs 0 0 Q (F0 m pc ls []) := by
    intro r1 H locs pc ls e1 hP hS hd; cases e1; exact hend0 H locs pc ls hP hS hd
  clear hend0
  have hw5 : ∀ w ∈ wsX50, w ∈ wsX5_passes := by decide +kernel
  have k46 := hts (.fieldLink RX5 46 "AnchorsForConfessionModel" "kept" "[I") (by decide +kernel)
  have k146 := hts (.fieldLink RX5 146 "AnchorsForConfessionModel" "isKeeping" "Z") (by decide +kernel)
  have k150 := hts (.fieldLink RX5 150 "AnchorsForConfessionModel" "cursor" "I") (by decide +kernel)
  replace hl : lv_has ls 3 [(0, .ref (A 0)), (1, .ref (A 4))] := hl
  refine lv_iconst (v := 0) hx hb dX5_passes_0 (by decide) ?_
  refine lv_istore_n (lv' := [(2, .int (0 : Int32)), (0, .ref (A 0)), (1, .ref (A 4))]) hx hb dX5_passes_1 rfl hl (by decide) rfl (fun ls hl => ?_)
  refine lp_ind (P := fun (q2 : Int32 × St) => ∀ (H : Heap) (locs : List Loc) (ls : Array Slot), va_P D vwCl (cM cI A q2.2) H → va_D AA (cM cI A q2.2) → va_S AA s.heap H locs → lv_has ls 3 [(0, .ref (A 0)), (1, .ref (A 4)), (2, .int q2.1)] → W p l e rm_X5_passes_a4 s m args below meth c H locs 0 0 Q (F0 m 2 ls [])) hf ?_ H locs ls hP hD hS (lv_sub hl [1, 2, 0] rfl)
  clear hf hP hD hS hl
  intro nx2 ih2 q2 hf H locs ls hP hD hS hl
  refine lv_iload_n hx hb dX5_passes_2 rfl (lv_at hl 2 rfl) ?_
  refine lv_aload_n hx hb dX5_passes_3 rfl (lv_at hl 1 rfl) ?_
  refine va_alen hx hb hK hP 4 0 cM_at4 rfl (v := 5) (by decide +kernel) dX5_passes_4 ?_
  refine lv_icmp_ge (tgt := 58) hx hb dX5_passes_5 (by decide) (fun c_1 => ?_) (fun c_1 => ?_)
  · replace hf := if_t c_1 hf
    exact hend q2.2 H locs _ _ hf hP hS dX5_passes_58
  · replace hf := if_f c_1 hf
    refine lv_aload_n hx hb dX5_passes_8 rfl (lv_at hl 0 rfl) ?_
    refine va_get (D := D) (ci := 5) (v := .int (q2.2 16 8)) (C := RX5) (T := TX5) (N := 27) hx hb hts hw5 hown hK hP 0 cM_at0 rfl 21 (by decide) k146 (fun _ h9 => h9) rfl dX5_passes_9 ?_
    refine lv_if_eq (tgt := 30) hx hb dX5_passes_12 (by decide) (fun c_2 => ?_) (fun c_2 => ?_)
    · replace hf := if_t c_2 hf
      refine lv_aload_n hx hb dX5_passes_30 rfl (lv_at hl 1 rfl) ?_
      refine lv_iload_n hx hb dX5_passes_31 rfl (lv_at hl 2 rfl) ?_
      refine lv_aload_n hx hb dX5_passes_32 rfl (lv_at hl 0 rfl) ?_
      refine va_get (D := D) (ci := 5) (v := .ref (A 13)) (C := RX5) (T := TX5) (N := 27) hx hb hts hw5 hown hK hP 0 cM_at0 rfl 19 (by decide) k46 (fun _ h9 => h9) rfl dX5_passes_33 ?_
      refine lv_aload_n hx hb dX5_passes_36 rfl (lv_at hl 0 rfl) ?_
      refine va_get (D := D) (ci := 5) (v := .int (q2.2 16 9)) (C := RX5) (T := TX5) (N := 27) hx hb hts hw5 hown hK hP 0 cM_at0 rfl 22 (by decide) k150 (fun _ h9 => h9) rfl dX5_passes_37 ?_
      obtain ⟨c_3, hf⟩ := gi_e hf
      refine va_iald hx hb hK hP 13 0 cM_at13 rfl c_3 dX5_passes_40 ?_
      obtain ⟨c_4, hf⟩ := gi_e hf
      refine va_iast hx hb hK hP hD hS 4 0 cM_at4 rfl c_4 dX5_passes_41 (fun H locs hP hD hS => ?_)
      obtain ⟨h_5, eh_5, hf⟩ := nm_e hf
      rw [cM_su4, ← eh_5] at hP hD
      refine lv_aload_n hx hb dX5_passes_42 rfl (lv_at hl 0 rfl) ?_
      refine lv_dup hx hb dX5_passes_43 rfl ?_
      refine va_get (D := D) (ci := 5) (v := .int (h_5 16 9)) (C := RX5) (T := TX5) (N := 27) hx hb hts hw5 hown hK hP 0 cM_at0 rfl 22 (by decide) k150 (fun _ h9 => h9) rfl dX5_passes_44 ?_
      refine lv_iconst (v := 1) hx hb dX5_passes_47 (by decide) ?_
      refine lv_iadd hx hb dX5_passes_48 ?_
      refine va_put (D := D) (ci := 5) (v := .int ((h_5 16 9) + (1 : Int32))) (ty := .int) (C := RX5) (T := TX5) (N := 27) hx hb hts hw5 tyX5 tyX5_ok nmX5 hown hK hP hD hS 0 cM_at0 rfl 22 (by decide) k150 (fun _ h9 => h9) rfl (tyX5_ok 22 (by decide)) rfl rfl (Nat.le_of_ble_eq_true rfl) dX5_passes_49 (fun H locs hP hD hS => ?_)
      obtain ⟨h_6, eh_6, hf⟩ := nm_e hf
      rw [cM_sc0_22, ← eh_6] at hP hD
      obtain ⟨v_7, ev_7, hf⟩ := nm_e hf
      refine lv_iinc (v := v_7) (lv' := [(2, .int v_7), (0, .ref (A 0)), (1, .ref (A 4))]) hx hb dX5_passes_52 hl (k := 2) rfl (by rw [ev_7]; rfl) (by decide) rfl (fun ls hl => ?_)
      refine lv_goto (tgt := 2) hx hb dX5_passes_55 (by decide) ?_
      exact ih2 (v_7, h_6) hf H locs ls hP hD hS (lv_sub hl [1, 2, 0] rfl)
    · replace hf := if_f c_2 hf
      refine lv_aload_n hx hb dX5_passes_15 rfl (lv_at hl 0 rfl) ?_
      refine va_get (D := D) (ci := 5) (v := .ref (A 13)) (C := RX5) (T := TX5) (N := 27) hx hb hts hw5 hown hK hP 0 cM_at0 rfl 19 (by decide) k46 (fun _ h9 => h9) rfl dX5_passes_16 ?_
      refine lv_aload_n hx hb dX5_passes_19 rfl (lv_at hl 0 rfl) ?_
      refine va_get (D := D) (ci := 5) (v := .int (q2.2 16 9)) (C := RX5) (T := TX5) (N := 27) hx hb hts hw5 hown hK hP 0 cM_at0 rfl 22 (by decide) k150 (fun _ h9 => h9) rfl dX5_passes_20 ?_
      refine lv_aload_n hx hb dX5_passes_23 rfl (lv_at hl 1 rfl) ?_
      refine lv_iload_n hx hb dX5_passes_24 rfl (lv_at hl 2 rfl) ?_
      obtain ⟨c_8, hf⟩ := gi_e hf
      refine va_iald hx hb hK hP 4 0 cM_at4 rfl c_8 dX5_passes_25 ?_
      obtain ⟨c_9, hf⟩ := gi_e hf
      refine va_iast hx hb hK hP hD hS 13 0 cM_at13 rfl c_9 dX5_passes_26 (fun H locs hP hD hS => ?_)
      obtain ⟨h_10, eh_10, hf⟩ := nm_e hf
      rw [cM_su13, ← eh_10] at hP hD
      refine lv_goto (tgt := 42) hx hb dX5_passes_27 (by decide) ?_
      refine lv_aload_n hx hb dX5_passes_42 rfl (lv_at hl 0 rfl) ?_
      refine lv_dup hx hb dX5_passes_43 rfl ?_
      refine va_get (D := D) (ci := 5) (v := .int (h_10 16 9)) (C := RX5) (T := TX5) (N := 27) hx hb hts hw5 hown hK hP 0 cM_at0 rfl 22 (by decide) k150 (fun _ h9 => h9) rfl dX5_passes_44 ?_
      refine lv_iconst (v := 1) hx hb dX5_passes_47 (by decide) ?_
      refine lv_iadd hx hb dX5_passes_48 ?_
      refine va_put (D := D) (ci := 5) (v := .int ((h_10 16 9) + (1 : Int32))) (ty := .int) (C := RX5) (T := TX5) (N := 27) hx hb hts hw5 tyX5 tyX5_ok nmX5 hown hK hP hD hS 0 cM_at0 rfl 22 (by decide) k150 (fun _ h9 => h9) rfl (tyX5_ok 22 (by decide)) rfl rfl (Nat.le_of_ble_eq_true rfl) dX5_passes_49 (fun H locs hP hD hS => ?_)
      obtain ⟨h_11, eh_11, hf⟩ := nm_e hf
      rw [cM_sc0_22, ← eh_11] at hP hD
      obtain ⟨v_12, ev_12, hf⟩ := nm_e hf
      refine lv_iinc (v := v_12) (lv' := [(2, .int v_12), (0, .ref (A 0)), (1, .ref (A 4))]) hx hb dX5_passes_52 hl (k := 2) rfl (by rw [ev_12]; rfl) (by decide) rfl (fun ls hl => ?_)
      refine lv_goto (tgt := 2) hx hb dX5_passes_55 (by decide) ?_
      exact ih2 (v_12, h_11) hf H locs ls hP hD hS (lv_sub hl [1, 2, 0] rfl)

def f_X5_passes_a5 (M : St) : Option (St) := (lp (fun (nx2 : (Int32 × St) → Option (St)) (q2 : Int32 × St) => (if (8 : Int32) ≤ q2.1 then (some q2.2) else (if (q2.2 16 8) = 0 then (gi (q2.2 16 9) 153 (gi q2.1 8 (nm (su q2.2 4 (q2.1).toNatClampNeg (q2.2 12 ((q2.2 16 9)).toNatClampNeg)) fun h_5 => (nm (su h_5 16 9 ((h_5 16 9) + (1 : Int32))) fun h_6 => (nm (q2.1 + (1 : Int32)) fun v_7 => (nx2 (v_7, h_6))))))) else (gi q2.1 8 (gi (q2.2 16 9) 153 (nm (su q2.2 12 ((q2.2 16 9)).toNatClampNeg (q2.2 4 (q2.1).toNatClampNeg)) fun h_10 => (nm (su h_10 16 9 ((h_10 16 9) + (1 : Int32))) fun h_11 => (nm (q2.1 + (1 : Int32)) fun v_12 => (nx2 (v_12, h_11)))))))))) 1000 ((0 : Int32), M))
def rm_X5_passes_a5 : Room := { frames := 0, cells := 0, slots := 0, locals := 0 }
set_option maxRecDepth 100000 in
set_option maxHeartbeats 4000000 in
theorem c_X5_passes_a5 (l : Launch) (D : va_G) (cI : ClassId) (A : Nat → Nat) (M : St) (r : St) (hf : f_X5_passes_a5 M = some r) : Ct l yX5_passes wsX5_passes rm_X5_passes_a5 D cI (cM cI A M) (cM cI A r) [.ref (A 0), .ref (A 5)] none := by
  unfold f_X5_passes_a5 at hf
  refine Ct.ofV (cc := cX5_passes) (maxL := 3) (by decide +kernel) rfl (Nat.le_of_ble_eq_true rfl) ?_
  intro p e s m args below meth c AA Q H locs ls hx hb hml hown hts hA hK hP hD hS hl hend0
  have hend : ∀ (r1 : St) (H : Heap) (locs : List Loc) (pc : Nat) (ls : Array Slot), some r1 = some r → va_P D vwCl (cM cI A r1) H → va_S AA s.heap H locs → decode cX5_passes pc = .ok (.return_, 1) → W p l e rm_X5_passes_a5 s m args below meth c H locs 0 0 Q (F0 m pc ls []) := by
    intro r1 H locs pc ls e1 hP hS hd; cases e1; exact hend0 H locs pc ls hP hS hd
  clear hend0
  have hw5 : ∀ w ∈ wsX50, w ∈ wsX5_passes := by decide +kernel
  have k46 := hts (.fieldLink RX5 46 "AnchorsForConfessionModel" "kept" "[I") (by decide +kernel)
  have k146 := hts (.fieldLink RX5 146 "AnchorsForConfessionModel" "isKeeping" "Z") (by decide +kernel)
  have k150 := hts (.fieldLink RX5 150 "AnchorsForConfessionModel" "cursor" "I") (by decide +kernel)
  replace hl : lv_has ls 3 [(0, .ref (A 0)), (1, .ref (A 5))] := hl
  refine lv_iconst (v := 0) hx hb dX5_passes_0 (by decide) ?_
  refine lv_istore_n (lv' := [(2, .int (0 : Int32)), (0, .ref (A 0)), (1, .ref (A 5))]) hx hb dX5_passes_1 rfl hl (by decide) rfl (fun ls hl => ?_)
  refine lp_ind (P := fun (q2 : Int32 × St) => ∀ (H : Heap) (locs : List Loc) (ls : Array Slot), va_P D vwCl (cM cI A q2.2) H → va_D AA (cM cI A q2.2) → va_S AA s.heap H locs → lv_has ls 3 [(0, .ref (A 0)), (1, .ref (A 5)), (2, .int q2.1)] → W p l e rm_X5_passes_a5 s m args below meth c H locs 0 0 Q (F0 m 2 ls [])) hf ?_ H locs ls hP hD hS (lv_sub hl [1, 2, 0] rfl)
  clear hf hP hD hS hl
  intro nx2 ih2 q2 hf H locs ls hP hD hS hl
  refine lv_iload_n hx hb dX5_passes_2 rfl (lv_at hl 2 rfl) ?_
  refine lv_aload_n hx hb dX5_passes_3 rfl (lv_at hl 1 rfl) ?_
  refine va_alen hx hb hK hP 5 0 cM_at5 rfl (v := 8) (by decide +kernel) dX5_passes_4 ?_
  refine lv_icmp_ge (tgt := 58) hx hb dX5_passes_5 (by decide) (fun c_1 => ?_) (fun c_1 => ?_)
  · replace hf := if_t c_1 hf
    exact hend q2.2 H locs _ _ hf hP hS dX5_passes_58
  · replace hf := if_f c_1 hf
    refine lv_aload_n hx hb dX5_passes_8 rfl (lv_at hl 0 rfl) ?_
    refine va_get (D := D) (ci := 5) (v := .int (q2.2 16 8)) (C := RX5) (T := TX5) (N := 27) hx hb hts hw5 hown hK hP 0 cM_at0 rfl 21 (by decide) k146 (fun _ h9 => h9) rfl dX5_passes_9 ?_
    refine lv_if_eq (tgt := 30) hx hb dX5_passes_12 (by decide) (fun c_2 => ?_) (fun c_2 => ?_)
    · replace hf := if_t c_2 hf
      refine lv_aload_n hx hb dX5_passes_30 rfl (lv_at hl 1 rfl) ?_
      refine lv_iload_n hx hb dX5_passes_31 rfl (lv_at hl 2 rfl) ?_
      refine lv_aload_n hx hb dX5_passes_32 rfl (lv_at hl 0 rfl) ?_
      refine va_get (D := D) (ci := 5) (v := .ref (A 13)) (C := RX5) (T := TX5) (N := 27) hx hb hts hw5 hown hK hP 0 cM_at0 rfl 19 (by decide) k46 (fun _ h9 => h9) rfl dX5_passes_33 ?_
      refine lv_aload_n hx hb dX5_passes_36 rfl (lv_at hl 0 rfl) ?_
      refine va_get (D := D) (ci := 5) (v := .int (q2.2 16 9)) (C := RX5) (T := TX5) (N := 27) hx hb hts hw5 hown hK hP 0 cM_at0 rfl 22 (by decide) k150 (fun _ h9 => h9) rfl dX5_passes_37 ?_
      obtain ⟨c_3, hf⟩ := gi_e hf
      refine va_iald hx hb hK hP 13 0 cM_at13 rfl c_3 dX5_passes_40 ?_
      obtain ⟨c_4, hf⟩ := gi_e hf
      refine va_iast hx hb hK hP hD hS 5 0 cM_at5 rfl c_4 dX5_passes_41 (fun H locs hP hD hS => ?_)
      obtain ⟨h_5, eh_5, hf⟩ := nm_e hf
      rw [cM_su5, ← eh_5] at hP hD
      refine lv_aload_n hx hb dX5_passes_42 rfl (lv_at hl 0 rfl) ?_
      refine lv_dup hx hb dX5_passes_43 rfl ?_
      refine va_get (D := D) (ci := 5) (v := .int (h_5 16 9)) (C := RX5) (T := TX5) (N := 27) hx hb hts hw5 hown hK hP 0 cM_at0 rfl 22 (by decide) k150 (fun _ h9 => h9) rfl dX5_passes_44 ?_
      refine lv_iconst (v := 1) hx hb dX5_passes_47 (by decide) ?_
      refine lv_iadd hx hb dX5_passes_48 ?_
      refine va_put (D := D) (ci := 5) (v := .int ((h_5 16 9) + (1 : Int32))) (ty := .int) (C := RX5) (T := TX5) (N := 27) hx hb hts hw5 tyX5 tyX5_ok nmX5 hown hK hP hD hS 0 cM_at0 rfl 22 (by decide) k150 (fun _ h9 => h9) rfl (tyX5_ok 22 (by decide)) rfl rfl (Nat.le_of_ble_eq_true rfl) dX5_passes_49 (fun H locs hP hD hS => ?_)
      obtain ⟨h_6, eh_6, hf⟩ := nm_e hf
      rw [cM_sc0_22, ← eh_6] at hP hD
      obtain ⟨v_7, ev_7, hf⟩ := nm_e hf
      refine lv_iinc (v := v_7) (lv' := [(2, .int v_7), (0, .ref (A 0)), (1, .ref (A 5))]) hx hb dX5_passes_52 hl (k := 2) rfl (by rw [ev_7]; rfl) (by decide) rfl (fun ls hl => ?_)
      refine lv_goto (tgt := 2) hx hb dX5_passes_55 (by decide) ?_
      exact ih2 (v_7, h_6) hf H locs ls hP hD hS (lv_sub hl [1, 2, 0] rfl)
    · replace hf := if_f c_2 hf
      refine lv_aload_n hx hb dX5_passes_15 rfl (lv_at hl 0 rfl) ?_
      refine va_get (D := D) (ci := 5) (v := .ref (A 13)) (C := RX5) (T := TX5) (N := 27) hx hb hts hw5 hown hK hP 0 cM_at0 rfl 19 (by decide) k46 (fun _ h9 => h9) rfl dX5_passes_16 ?_
      refine lv_aload_n hx hb dX5_passes_19 rfl (lv_at hl 0 rfl) ?_
      refine va_get (D := D) (ci := 5) (v := .int (q2.2 16 9)) (C := RX5) (T := TX5) (N := 27) hx hb hts hw5 hown hK hP 0 cM_at0 rfl 22 (by decide) k150 (fun _ h9 => h9) rfl dX5_passes_20 ?_
      refine lv_aload_n hx hb dX5_passes_23 rfl (lv_at hl 1 rfl) ?_
      refine lv_iload_n hx hb dX5_passes_24 rfl (lv_at hl 2 rfl) ?_
      obtain ⟨c_8, hf⟩ := gi_e hf
      refine va_iald hx hb hK hP 5 0 cM_at5 rfl c_8 dX5_passes_25 ?_
      obtain ⟨c_9, hf⟩ := gi_e hf
      refine va_iast hx hb hK hP hD hS 13 0 cM_at13 rfl c_9 dX5_passes_26 (fun H locs hP hD hS => ?_)
      obtain ⟨h_10, eh_10, hf⟩ := nm_e hf
      rw [cM_su13, ← eh_10] at hP hD
      refine lv_goto (tgt := 42) hx hb dX5_passes_27 (by decide) ?_
      refine lv_aload_n hx hb dX5_passes_42 rfl (lv_at hl 0 rfl) ?_
      refine lv_dup hx hb dX5_passes_43 rfl ?_
      refine va_get (D := D) (ci := 5) (v := .int (h_10 16 9)) (C := RX5) (T := TX5) (N := 27) hx hb hts hw5 hown hK hP 0 cM_at0 rfl 22 (by decide) k150 (fun _ h9 => h9) rfl dX5_passes_44 ?_
      refine lv_iconst (v := 1) hx hb dX5_passes_47 (by decide) ?_
      refine lv_iadd hx hb dX5_passes_48 ?_
      refine va_put (D := D) (ci := 5) (v := .int ((h_10 16 9) + (1 : Int32))) (ty := .int) (C := RX5) (T := TX5) (N := 27) hx hb hts hw5 tyX5 tyX5_ok nmX5 hown hK hP hD hS 0 cM_at0 rfl 22 (by decide) k150 (fun _ h9 => h9) rfl (tyX5_ok 22 (by decide)) rfl rfl (Nat.le_of_ble_eq_true rfl) dX5_passes_49 (fun H locs hP hD hS => ?_)
      obtain ⟨h_11, eh_11, hf⟩ := nm_e hf
      rw [cM_sc0_22, ← eh_11] at hP hD
      obtain ⟨v_12, ev_12, hf⟩ := nm_e hf
      refine lv_iinc (v := v_12) (lv' := [(2, .int v_12), (0, .ref (A 0)), (1, .ref (A 5))]) hx hb dX5_passes_52 hl (k := 2) rfl (by rw [ev_12]; rfl) (by decide) rfl (fun ls hl => ?_)
      refine lv_goto (tgt := 2) hx hb dX5_passes_55 (by decide) ?_
      exact ih2 (v_12, h_11) hf H locs ls hP hD hS (lv_sub hl [1, 2, 0] rfl)

def f_X5_passes_a6 (M : St) : Option (St) := (lp (fun (nx2 : (Int32 × St) → Option (St)) (q2 : Int32 × St) => (if (8 : Int32) ≤ q2.1 then (some q2.2) else (if (q2.2 16 8) = 0 then (gi (q2.2 16 9) 153 (gi q2.1 8 (nm (su q2.2 5 (q2.1).toNatClampNeg (q2.2 12 ((q2.2 16 9)).toNatClampNeg)) fun h_5 => (nm (su h_5 16 9 ((h_5 16 9) + (1 : Int32))) fun h_6 => (nm (q2.1 + (1 : Int32)) fun v_7 => (nx2 (v_7, h_6))))))) else (gi q2.1 8 (gi (q2.2 16 9) 153 (nm (su q2.2 12 ((q2.2 16 9)).toNatClampNeg (q2.2 5 (q2.1).toNatClampNeg)) fun h_10 => (nm (su h_10 16 9 ((h_10 16 9) + (1 : Int32))) fun h_11 => (nm (q2.1 + (1 : Int32)) fun v_12 => (nx2 (v_12, h_11)))))))))) 1000 ((0 : Int32), M))
def rm_X5_passes_a6 : Room := { frames := 0, cells := 0, slots := 0, locals := 0 }
set_option maxRecDepth 100000 in
set_option maxHeartbeats 4000000 in
theorem c_X5_passes_a6 (l : Launch) (D : va_G) (cI : ClassId) (A : Nat → Nat) (M : St) (r : St) (hf : f_X5_passes_a6 M = some r) : Ct l yX5_passes wsX5_passes rm_X5_passes_a6 D cI (cM cI A M) (cM cI A r) [.ref (A 0), .ref (A 6)] none := by
  unfold f_X5_passes_a6 at hf
  refine Ct.ofV (cc := cX5_passes) (maxL := 3) (by decide +kernel) rfl (Nat.le_of_ble_eq_true rfl) ?_
  intro p e s m args below meth c AA Q H locs ls hx hb hml hown hts hA hK hP hD hS hl hend0
  have hend : ∀ (r1 : St) (H : Heap) (locs : List Loc) (pc : Nat) (ls : Array Slot), some r1 = some r → va_P D vwCl (cM cI A r1) H → va_S AA s.heap H locs → decode cX5_passes pc = .ok (.return_, 1) → W p l e rm_X5_passes_a6 s m args below meth c H locs 0 0 Q (F0 m pc ls []) := by
    intro r1 H locs pc ls e1 hP hS hd; cases e1; exact hend0 H locs pc ls hP hS hd
  clear hend0
  have hw5 : ∀ w ∈ wsX50, w ∈ wsX5_passes := by decide +kernel
  have k46 := hts (.fieldLink RX5 46 "AnchorsForConfessionModel" "kept" "[I") (by decide +kernel)
  have k146 := hts (.fieldLink RX5 146 "AnchorsForConfessionModel" "isKeeping" "Z") (by decide +kernel)
  have k150 := hts (.fieldLink RX5 150 "AnchorsForConfessionModel" "cursor" "I") (by decide +kernel)
  replace hl : lv_has ls 3 [(0, .ref (A 0)), (1, .ref (A 6))] := hl
  refine lv_iconst (v := 0) hx hb dX5_passes_0 (by decide) ?_
  refine lv_istore_n (lv' := [(2, .int (0 : Int32)), (0, .ref (A 0)), (1, .ref (A 6))]) hx hb dX5_passes_1 rfl hl (by decide) rfl (fun ls hl => ?_)
  refine lp_ind (P := fun (q2 : Int32 × St) => ∀ (H : Heap) (locs : List Loc) (ls : Array Slot), va_P D vwCl (cM cI A q2.2) H → va_D AA (cM cI A q2.2) → va_S AA s.heap H locs → lv_has ls 3 [(0, .ref (A 0)), (1, .ref (A 6)), (2, .int q2.1)] → W p l e rm_X5_passes_a6 s m args below meth c H locs 0 0 Q (F0 m 2 ls [])) hf ?_ H locs ls hP hD hS (lv_sub hl [1, 2, 0] rfl)
  clear hf hP hD hS hl
  intro nx2 ih2 q2 hf H locs ls hP hD hS hl
  refine lv_iload_n hx hb dX5_passes_2 rfl (lv_at hl 2 rfl) ?_
  refine lv_aload_n hx hb dX5_passes_3 rfl (lv_at hl 1 rfl) ?_
  refine va_alen hx hb hK hP 6 0 cM_at6 rfl (v := 8) (by decide +kernel) dX5_passes_4 ?_
  refine lv_icmp_ge (tgt := 58) hx hb dX5_passes_5 (by decide) (fun c_1 => ?_) (fun c_1 => ?_)
  · replace hf := if_t c_1 hf
    exact hend q2.2 H locs _ _ hf hP hS dX5_passes_58
  · replace hf := if_f c_1 hf
    refine lv_aload_n hx hb dX5_passes_8 rfl (lv_at hl 0 rfl) ?_
    refine va_get (D := D) (ci := 5) (v := .int (q2.2 16 8)) (C := RX5) (T := TX5) (N := 27) hx hb hts hw5 hown hK hP 0 cM_at0 rfl 21 (by decide) k146 (fun _ h9 => h9) rfl dX5_passes_9 ?_
    refine lv_if_eq (tgt := 30) hx hb dX5_passes_12 (by decide) (fun c_2 => ?_) (fun c_2 => ?_)
    · replace hf := if_t c_2 hf
      refine lv_aload_n hx hb dX5_passes_30 rfl (lv_at hl 1 rfl) ?_
      refine lv_iload_n hx hb dX5_passes_31 rfl (lv_at hl 2 rfl) ?_
      refine lv_aload_n hx hb dX5_passes_32 rfl (lv_at hl 0 rfl) ?_
      refine va_get (D := D) (ci := 5) (v := .ref (A 13)) (C := RX5) (T := TX5) (N := 27) hx hb hts hw5 hown hK hP 0 cM_at0 rfl 19 (by decide) k46 (fun _ h9 => h9) rfl dX5_passes_33 ?_
      refine lv_aload_n hx hb dX5_passes_36 rfl (lv_at hl 0 rfl) ?_
      refine va_get (D := D) (ci := 5) (v := .int (q2.2 16 9)) (C := RX5) (T := TX5) (N := 27) hx hb hts hw5 hown hK hP 0 cM_at0 rfl 22 (by decide) k150 (fun _ h9 => h9) rfl dX5_passes_37 ?_
      obtain ⟨c_3, hf⟩ := gi_e hf
      refine va_iald hx hb hK hP 13 0 cM_at13 rfl c_3 dX5_passes_40 ?_
      obtain ⟨c_4, hf⟩ := gi_e hf
      refine va_iast hx hb hK hP hD hS 6 0 cM_at6 rfl c_4 dX5_passes_41 (fun H locs hP hD hS => ?_)
      obtain ⟨h_5, eh_5, hf⟩ := nm_e hf
      rw [cM_su6, ← eh_5] at hP hD
      refine lv_aload_n hx hb dX5_passes_42 rfl (lv_at hl 0 rfl) ?_
      refine lv_dup hx hb dX5_passes_43 rfl ?_
      refine va_get (D := D) (ci := 5) (v := .int (h_5 16 9)) (C := RX5) (T := TX5) (N := 27) hx hb hts hw5 hown hK hP 0 cM_at0 rfl 22 (by decide) k150 (fun _ h9 => h9) rfl dX5_passes_44 ?_
      refine lv_iconst (v := 1) hx hb dX5_passes_47 (by decide) ?_
      refine lv_iadd hx hb dX5_passes_48 ?_
      refine va_put (D := D) (ci := 5) (v := .int ((h_5 16 9) + (1 : Int32))) (ty := .int) (C := RX5) (T := TX5) (N := 27) hx hb hts hw5 tyX5 tyX5_ok nmX5 hown hK hP hD hS 0 cM_at0 rfl 22 (by decide) k150 (fun _ h9 => h9) rfl (tyX5_ok 22 (by decide)) rfl rfl (Nat.le_of_ble_eq_true rfl) dX5_passes_49 (fun H locs hP hD hS => ?_)
      obtain ⟨h_6, eh_6, hf⟩ := nm_e hf
      rw [cM_sc0_22, ← eh_6] at hP hD
      obtain ⟨v_7, ev_7, hf⟩ := nm_e hf
      refine lv_iinc (v := v_7) (lv' := [(2, .int v_7), (0, .ref (A 0)), (1, .ref (A 6))]) hx hb dX5_passes_52 hl (k := 2) rfl (by rw [ev_7]; rfl) (by decide) rfl (fun ls hl => ?_)
      refine lv_goto (tgt := 2) hx hb dX5_passes_55 (by decide) ?_
      exact ih2 (v_7, h_6) hf H locs ls hP hD hS (lv_sub hl [1, 2, 0] rfl)
    · replace hf := if_f c_2 hf
      refine lv_aload_n hx hb dX5_passes_15 rfl (lv_at hl 0 rfl) ?_
      refine va_get (D := D) (ci := 5) (v := .ref (A 13)) (C := RX5) (T := TX5) (N := 27) hx hb hts hw5 hown hK hP 0 cM_at0 rfl 19 (by decide) k46 (fun _ h9 => h9) rfl dX5_passes_16 ?_
      refine lv_aload_n hx hb dX5_passes_19 rfl (lv_at hl 0 rfl) ?_
      refine va_get (D := D) (ci := 5) (v := .int (q2.2 16 9)) (C := RX5) (T := TX5) (N := 27) hx hb hts hw5 hown hK hP 0 cM_at0 rfl 22 (by decide) k150 (fun _ h9 => h9) rfl dX5_passes_20 ?_
      refine lv_aload_n hx hb dX5_passes_23 rfl (lv_at hl 1 rfl) ?_
      refine lv_iload_n hx hb dX5_passes_24 rfl (lv_at hl 2 rfl) ?_
      obtain ⟨c_8, hf⟩ := gi_e hf
      refine va_iald hx hb hK hP 6 0 cM_at6 rfl c_8 dX5_passes_25 ?_
      obtain ⟨c_9, hf⟩ := gi_e hf
      refine va_iast hx hb hK hP hD hS 13 0 cM_at13 rfl c_9 dX5_passes_26 (fun H locs hP hD hS => ?_)
      obtain ⟨h_10, eh_10, hf⟩ := nm_e hf
      rw [cM_su13, ← eh_10] at hP hD
      refine lv_goto (tgt := 42) hx hb dX5_passes_27 (by decide) ?_
      refine lv_aload_n hx hb dX5_passes_42 rfl (lv_at hl 0 rfl) ?_
      refine lv_dup hx hb dX5_passes_43 rfl ?_
      refine va_get (D := D) (ci := 5) (v := .int (h_10 16 9)) (C := RX5) (T := TX5) (N := 27) hx hb hts hw5 hown hK hP 0 cM_at0 rfl 22 (by decide) k150 (fun _ h9 => h9) rfl dX5_passes_44 ?_
      refine lv_iconst (v := 1) hx hb dX5_passes_47 (by decide) ?_
      refine lv_iadd hx hb dX5_passes_48 ?_
      refine va_put (D := D) (ci := 5) (v := .int ((h_10 16 9) + (1 : Int32))) (ty := .int) (C := RX5) (T := TX5) (N := 27) hx hb hts hw5 tyX5 tyX5_ok nmX5 hown hK hP hD hS 0 cM_at0 rfl 22 (by decide) k150 (fun _ h9 => h9) rfl (tyX5_ok 22 (by decide)) rfl rfl (Nat.le_of_ble_eq_true rfl) dX5_passes_49 (fun H locs hP hD hS => ?_)
      obtain ⟨h_11, eh_11, hf⟩ := nm_e hf
      rw [cM_sc0_22, ← eh_11] at hP hD
      obtain ⟨v_12, ev_12, hf⟩ := nm_e hf
      refine lv_iinc (v := v_12) (lv' := [(2, .int v_12), (0, .ref (A 0)), (1, .ref (A 6))]) hx hb dX5_passes_52 hl (k := 2) rfl (by rw [ev_12]; rfl) (by decide) rfl (fun ls hl => ?_)
      refine lv_goto (tgt := 2) hx hb dX5_passes_55 (by decide) ?_
      exact ih2 (v_12, h_11) hf H locs ls hP hD hS (lv_sub hl [1, 2, 0] rfl)

def f_X5_passes_a7 (M : St) : Option (St) := (lp (fun (nx2 : (Int32 × St) → Option (St)) (q2 : Int32 × St) => (if (8 : Int32) ≤ q2.1 then (some q2.2) else (if (q2.2 16 8) = 0 then (gi (q2.2 16 9) 153 (gi q2.1 8 (nm (su q2.2 6 (q2.1).toNatClampNeg (q2.2 12 ((q2.2 16 9)).toNatClampNeg)) fun h_5 => (nm (su h_5 16 9 ((h_5 16 9) + (1 : Int32))) fun h_6 => (nm (q2.1 + (1 : Int32)) fun v_7 => (nx2 (v_7, h_6))))))) else (gi q2.1 8 (gi (q2.2 16 9) 153 (nm (su q2.2 12 ((q2.2 16 9)).toNatClampNeg (q2.2 6 (q2.1).toNatClampNeg)) fun h_10 => (nm (su h_10 16 9 ((h_10 16 9) + (1 : Int32))) fun h_11 => (nm (q2.1 + (1 : Int32)) fun v_12 => (nx2 (v_12, h_11)))))))))) 1000 ((0 : Int32), M))
def rm_X5_passes_a7 : Room := { frames := 0, cells := 0, slots := 0, locals := 0 }
set_option maxRecDepth 100000 in
set_option maxHeartbeats 4000000 in
theorem c_X5_passes_a7 (l : Launch) (D : va_G) (cI : ClassId) (A : Nat → Nat) (M : St) (r : St) (hf : f_X5_passes_a7 M = some r) : Ct l yX5_passes wsX5_passes rm_X5_passes_a7 D cI (cM cI A M) (cM cI A r) [.ref (A 0), .ref (A 7)] none := by
  unfold f_X5_passes_a7 at hf
  refine Ct.ofV (cc := cX5_passes) (maxL := 3) (by decide +kernel) rfl (Nat.le_of_ble_eq_true rfl) ?_
  intro p e s m args below meth c AA Q H locs ls hx hb hml hown hts hA hK hP hD hS hl hend0
  have hend : ∀ (r1 : St) (H : Heap) (locs : List Loc) (pc : Nat) (ls : Array Slot), some r1 = some r → va_P D vwCl (cM cI A r1) H → va_S AA s.heap H locs → decode cX5_passes pc = .ok (.return_, 1) → W p l e rm_X5_passes_a7 s m args below meth c H locs 0 0 Q (F0 m pc ls []) := by
    intro r1 H locs pc ls e1 hP hS hd; cases e1; exact hend0 H locs pc ls hP hS hd
  clear hend0
  have hw5 : ∀ w ∈ wsX50, w ∈ wsX5_passes := by decide +kernel
  have k46 := hts (.fieldLink RX5 46 "AnchorsForConfessionModel" "kept" "[I") (by decide +kernel)
  have k146 := hts (.fieldLink RX5 146 "AnchorsForConfessionModel" "isKeeping" "Z") (by decide +kernel)
  have k150 := hts (.fieldLink RX5 150 "AnchorsForConfessionModel" "cursor" "I") (by decide +kernel)
  replace hl : lv_has ls 3 [(0, .ref (A 0)), (1, .ref (A 7))] := hl
  refine lv_iconst (v := 0) hx hb dX5_passes_0 (by decide) ?_
  refine lv_istore_n (lv' := [(2, .int (0 : Int32)), (0, .ref (A 0)), (1, .ref (A 7))]) hx hb dX5_passes_1 rfl hl (by decide) rfl (fun ls hl => ?_)
  refine lp_ind (P := fun (q2 : Int32 × St) => ∀ (H : Heap) (locs : List Loc) (ls : Array Slot), va_P D vwCl (cM cI A q2.2) H → va_D AA (cM cI A q2.2) → va_S AA s.heap H locs → lv_has ls 3 [(0, .ref (A 0)), (1, .ref (A 7)), (2, .int q2.1)] → W p l e rm_X5_passes_a7 s m args below meth c H locs 0 0 Q (F0 m 2 ls [])) hf ?_ H locs ls hP hD hS (lv_sub hl [1, 2, 0] rfl)
  clear hf hP hD hS hl
  intro nx2 ih2 q2 hf H locs ls hP hD hS hl
  refine lv_iload_n hx hb dX5_passes_2 rfl (lv_at hl 2 rfl) ?_
  refine lv_aload_n hx hb dX5_passes_3 rfl (lv_at hl 1 rfl) ?_
  refine va_alen hx hb hK hP 7 0 cM_at7 rfl (v := 8) (by decide +kernel) dX5_passes_4 ?_
  refine lv_icmp_ge (tgt := 58) hx hb dX5_passes_5 (by decide) (fun c_1 => ?_) (fun c_1 => ?_)
  · replace hf := if_t c_1 hf
    exact hend q2.2 H locs _ _ hf hP hS dX5_passes_58
  · replace hf := if_f c_1 hf
    refine lv_aload_n hx hb dX5_passes_8 rfl (lv_at hl 0 rfl) ?_
    refine va_get (D := D) (ci := 5) (v := .int (q2.2 16 8)) (C := RX5) (T := TX5) (N := 27) hx hb hts hw5 hown hK hP 0 cM_at0 rfl 21 (by decide) k146 (fun _ h9 => h9) rfl dX5_passes_9 ?_
    refine lv_if_eq (tgt := 30) hx hb dX5_passes_12 (by decide) (fun c_2 => ?_) (fun c_2 => ?_)
    · replace hf := if_t c_2 hf
      refine lv_aload_n hx hb dX5_passes_30 rfl (lv_at hl 1 rfl) ?_
      refine lv_iload_n hx hb dX5_passes_31 rfl (lv_at hl 2 rfl) ?_
      refine lv_aload_n hx hb dX5_passes_32 rfl (lv_at hl 0 rfl) ?_
      refine va_get (D := D) (ci := 5) (v := .ref (A 13)) (C := RX5) (T := TX5) (N := 27) hx hb hts hw5 hown hK hP 0 cM_at0 rfl 19 (by decide) k46 (fun _ h9 => h9) rfl dX5_passes_33 ?_
      refine lv_aload_n hx hb dX5_passes_36 rfl (lv_at hl 0 rfl) ?_
      refine va_get (D := D) (ci := 5) (v := .int (q2.2 16 9)) (C := RX5) (T := TX5) (N := 27) hx hb hts hw5 hown hK hP 0 cM_at0 rfl 22 (by decide) k150 (fun _ h9 => h9) rfl dX5_passes_37 ?_
      obtain ⟨c_3, hf⟩ := gi_e hf
      refine va_iald hx hb hK hP 13 0 cM_at13 rfl c_3 dX5_passes_40 ?_
      obtain ⟨c_4, hf⟩ := gi_e hf
      refine va_iast hx hb hK hP hD hS 7 0 cM_at7 rfl c_4 dX5_passes_41 (fun H locs hP hD hS => ?_)
      obtain ⟨h_5, eh_5, hf⟩ := nm_e hf
      rw [cM_su7, ← eh_5] at hP hD
      refine lv_aload_n hx hb dX5_passes_42 rfl (lv_at hl 0 rfl) ?_
      refine lv_dup hx hb dX5_passes_43 rfl ?_
      refine va_get (D := D) (ci := 5) (v := .int (h_5 16 9)) (C := RX5) (T := TX5) (N := 27) hx hb hts hw5 hown hK hP 0 cM_at0 rfl 22 (by decide) k150 (fun _ h9 => h9) rfl dX5_passes_44 ?_
      refine lv_iconst (v := 1) hx hb dX5_passes_47 (by decide) ?_
      refine lv_iadd hx hb dX5_passes_48 ?_
      refine va_put (D := D) (ci := 5) (v := .int ((h_5 16 9) + (1 : Int32))) (ty := .int) (C := RX5) (T := TX5) (N := 27) hx hb hts hw5 tyX5 tyX5_ok nmX5 hown hK hP hD hS 0 cM_at0 rfl 22 (by decide) k150 (fun _ h9 => h9) rfl (tyX5_ok 22 (by decide)) rfl rfl (Nat.le_of_ble_eq_true rfl) dX5_passes_49 (fun H locs hP hD hS => ?_)
      obtain ⟨h_6, eh_6, hf⟩ := nm_e hf
      rw [cM_sc0_22, ← eh_6] at hP hD
      obtain ⟨v_7, ev_7, hf⟩ := nm_e hf
      refine lv_iinc (v := v_7) (lv' := [(2, .int v_7), (0, .ref (A 0)), (1, .ref (A 7))]) hx hb dX5_passes_52 hl (k := 2) rfl (by rw [ev_7]; rfl) (by decide) rfl (fun ls hl => ?_)
      refine lv_goto (tgt := 2) hx hb dX5_passes_55 (by decide) ?_
      exact ih2 (v_7, h_6) hf H locs ls hP hD hS (lv_sub hl [1, 2, 0] rfl)
    · replace hf := if_f c_2 hf
      refine lv_aload_n hx hb dX5_passes_15 rfl (lv_at hl 0 rfl) ?_
      refine va_get (D := D) (ci := 5) (v := .ref (A 13)) (C := RX5) (T := TX5) (N := 27) hx hb hts hw5 hown hK hP 0 cM_at0 rfl 19 (by decide) k46 (fun _ h9 => h9) rfl dX5_passes_16 ?_
      refine lv_aload_n hx hb dX5_passes_19 rfl (lv_at hl 0 rfl) ?_
      refine va_get (D := D) (ci := 5) (v := .int (q2.2 16 9)) (C := RX5) (T := TX5) (N := 27) hx hb hts hw5 hown hK hP 0 cM_at0 rfl 22 (by decide) k150 (fun _ h9 => h9) rfl dX5_passes_20 ?_
      refine lv_aload_n hx hb dX5_passes_23 rfl (lv_at hl 1 rfl) ?_
      refine lv_iload_n hx hb dX5_passes_24 rfl (lv_at hl 2 rfl) ?_
      obtain ⟨c_8, hf⟩ := gi_e hf
      refine va_iald hx hb hK hP 7 0 cM_at7 rfl c_8 dX5_passes_25 ?_
      obtain ⟨c_9, hf⟩ := gi_e hf
      refine va_iast hx hb hK hP hD hS 13 0 cM_at13 rfl c_9 dX5_passes_26 (fun H locs hP hD hS => ?_)
      obtain ⟨h_10, eh_10, hf⟩ := nm_e hf
      rw [cM_su13, ← eh_10] at hP hD
      refine lv_goto (tgt := 42) hx hb dX5_passes_27 (by decide) ?_
      refine lv_aload_n hx hb dX5_passes_42 rfl (lv_at hl 0 rfl) ?_
      refine lv_dup hx hb dX5_passes_43 rfl ?_
      refine va_get (D := D) (ci := 5) (v := .int (h_10 16 9)) (C := RX5) (T := TX5) (N := 27) hx hb hts hw5 hown hK hP 0 cM_at0 rfl 22 (by decide) k150 (fun _ h9 => h9) rfl dX5_passes_44 ?_
      refine lv_iconst (v := 1) hx hb dX5_passes_47 (by decide) ?_
      refine lv_iadd hx hb dX5_passes_48 ?_
      refine va_put (D := D) (ci := 5) (v := .int ((h_10 16 9) + (1 : Int32))) (ty := .int) (C := RX5) (T := TX5) (N := 27) hx hb hts hw5 tyX5 tyX5_ok nmX5 hown hK hP hD hS 0 cM_at0 rfl 22 (by decide) k150 (fun _ h9 => h9) rfl (tyX5_ok 22 (by decide)) rfl rfl (Nat.le_of_ble_eq_true rfl) dX5_passes_49 (fun H locs hP hD hS => ?_)
      obtain ⟨h_11, eh_11, hf⟩ := nm_e hf
      rw [cM_sc0_22, ← eh_11] at hP hD
      obtain ⟨v_12, ev_12, hf⟩ := nm_e hf
      refine lv_iinc (v := v_12) (lv' := [(2, .int v_12), (0, .ref (A 0)), (1, .ref (A 7))]) hx hb dX5_passes_52 hl (k := 2) rfl (by rw [ev_12]; rfl) (by decide) rfl (fun ls hl => ?_)
      refine lv_goto (tgt := 2) hx hb dX5_passes_55 (by decide) ?_
      exact ih2 (v_12, h_11) hf H locs ls hP hD hS (lv_sub hl [1, 2, 0] rfl)

def f_X5_passes_a8 (M : St) : Option (St) := (lp (fun (nx2 : (Int32 × St) → Option (St)) (q2 : Int32 × St) => (if (8 : Int32) ≤ q2.1 then (some q2.2) else (if (q2.2 16 8) = 0 then (gi (q2.2 16 9) 153 (gi q2.1 8 (nm (su q2.2 7 (q2.1).toNatClampNeg (q2.2 12 ((q2.2 16 9)).toNatClampNeg)) fun h_5 => (nm (su h_5 16 9 ((h_5 16 9) + (1 : Int32))) fun h_6 => (nm (q2.1 + (1 : Int32)) fun v_7 => (nx2 (v_7, h_6))))))) else (gi q2.1 8 (gi (q2.2 16 9) 153 (nm (su q2.2 12 ((q2.2 16 9)).toNatClampNeg (q2.2 7 (q2.1).toNatClampNeg)) fun h_10 => (nm (su h_10 16 9 ((h_10 16 9) + (1 : Int32))) fun h_11 => (nm (q2.1 + (1 : Int32)) fun v_12 => (nx2 (v_12, h_11)))))))))) 1000 ((0 : Int32), M))
def rm_X5_passes_a8 : Room := { frames := 0, cells := 0, slots := 0, locals := 0 }
set_option maxRecDepth 100000 in
set_option maxHeartbeats 4000000 in
theorem c_X5_passes_a8 (l : Launch) (D : va_G) (cI : ClassId) (A : Nat → Nat) (M : St) (r : St) (hf : f_X5_passes_a8 M = some r) : Ct l yX5_passes wsX5_passes rm_X5_passes_a8 D cI (cM cI A M) (cM cI A r) [.ref (A 0), .ref (A 8)] none := by
  unfold f_X5_passes_a8 at hf
  refine Ct.ofV (cc := cX5_passes) (maxL := 3) (by decide +kernel) rfl (Nat.le_of_ble_eq_true rfl) ?_
  intro p e s m args below meth c AA Q H locs ls hx hb hml hown hts hA hK hP hD hS hl hend0
  have hend : ∀ (r1 : St) (H : Heap) (locs : List Loc) (pc : Nat) (ls : Array Slot), some r1 = some r → va_P D vwCl (cM cI A r1) H → va_S AA s.heap H locs → decode cX5_passes pc = .ok (.return_, 1) → W p l e rm_X5_passes_a8 s m args below meth c H locs 0 0 Q (F0 m pc ls []) := by
    intro r1 H locs pc ls e1 hP hS hd; cases e1; exact hend0 H locs pc ls hP hS hd
  clear hend0
  have hw5 : ∀ w ∈ wsX50, w ∈ wsX5_passes := by decide +kernel
  have k46 := hts (.fieldLink RX5 46 "AnchorsForConfessionModel" "kept" "[I") (by decide +kernel)
  have k146 := hts (.fieldLink RX5 146 "AnchorsForConfessionModel" "isKeeping" "Z") (by decide +kernel)
  have k150 := hts (.fieldLink RX5 150 "AnchorsForConfessionModel" "cursor" "I") (by decide +kernel)
  replace hl : lv_has ls 3 [(0, .ref (A 0)), (1, .ref (A 8))] := hl
  refine lv_iconst (v := 0) hx hb dX5_passes_0 (by decide) ?_
  refine lv_istore_n (lv' := [(2, .int (0 : Int32)), (0, .ref (A 0)), (1, .ref (A 8))]) hx hb dX5_passes_1 rfl hl (by decide) rfl (fun ls hl => ?_)
  refine lp_ind (P := fun (q2 : Int32 × St) => ∀ (H : Heap) (locs : List Loc) (ls : Array Slot), va_P D vwCl (cM cI A q2.2) H → va_D AA (cM cI A q2.2) → va_S AA s.heap H locs → lv_has ls 3 [(0, .ref (A 0)), (1, .ref (A 8)), (2, .int q2.1)] → W p l e rm_X5_passes_a8 s m args below meth c H locs 0 0 Q (F0 m 2 ls [])) hf ?_ H locs ls hP hD hS (lv_sub hl [1, 2, 0] rfl)
  clear hf hP hD hS hl
  intro nx2 ih2 q2 hf H locs ls hP hD hS hl
  refine lv_iload_n hx hb dX5_passes_2 rfl (lv_at hl 2 rfl) ?_
  refine lv_aload_n hx hb dX5_passes_3 rfl (lv_at hl 1 rfl) ?_
  refine va_alen hx hb hK hP 8 0 cM_at8 rfl (v := 8) (by decide +kernel) dX5_passes_4 ?_
  refine lv_icmp_ge (tgt := 58) hx hb dX5_passes_5 (by decide) (fun c_1 => ?_) (fun c_1 => ?_)
  · replace hf := if_t c_1 hf
    exact hend q2.2 H locs _ _ hf hP hS dX5_passes_58
  · replace hf := if_f c_1 hf
    refine lv_aload_n hx hb dX5_passes_8 rfl (lv_at hl 0 rfl) ?_
    refine va_get (D := D) (ci := 5) (v := .int (q2.2 16 8)) (C := RX5) (T := TX5) (N := 27) hx hb hts hw5 hown hK hP 0 cM_at0 rfl 21 (by decide) k146 (fun _ h9 => h9) rfl dX5_passes_9 ?_
    refine lv_if_eq (tgt := 30) hx hb dX5_passes_12 (by decide) (fun c_2 => ?_) (fun c_2 => ?_)
    · replace hf := if_t c_2 hf
      refine lv_aload_n hx hb dX5_passes_30 rfl (lv_at hl 1 rfl) ?_
      refine lv_iload_n hx hb dX5_passes_31 rfl (lv_at hl 2 rfl) ?_
      refine lv_aload_n hx hb dX5_passes_32 rfl (lv_at hl 0 rfl) ?_
      refine va_get (D := D) (ci := 5) (v := .ref (A 13)) (C := RX5) (T := TX5) (N := 27) hx hb hts hw5 hown hK hP 0 cM_at0 rfl 19 (by decide) k46 (fun _ h9 => h9) rfl dX5_passes_33 ?_
      refine lv_aload_n hx hb dX5_passes_36 rfl (lv_at hl 0 rfl) ?_
      refine va_get (D := D) (ci := 5) (v := .int (q2.2 16 9)) (C := RX5) (T := TX5) (N := 27) hx hb hts hw5 hown hK hP 0 cM_at0 rfl 22 (by decide) k150 (fun _ h9 => h9) rfl dX5_passes_37 ?_
      obtain ⟨c_3, hf⟩ := gi_e hf
      refine va_iald hx hb hK hP 13 0 cM_at13 rfl c_3 dX5_passes_40 ?_
      obtain ⟨c_4, hf⟩ := gi_e hf
      refine va_iast hx hb hK hP hD hS 8 0 cM_at8 rfl c_4 dX5_passes_41 (fun H locs hP hD hS => ?_)
      obtain ⟨h_5, eh_5, hf⟩ := nm_e hf
      rw [cM_su8, ← eh_5] at hP hD
      refine lv_aload_n hx hb dX5_passes_42 rfl (lv_at hl 0 rfl) ?_
      refine lv_dup hx hb dX5_passes_43 rfl ?_
      refine va_get (D := D) (ci := 5) (v := .int (h_5 16 9)) (C := RX5) (T := TX5) (N := 27) hx hb hts hw5 hown hK hP 0 cM_at0 rfl 22 (by decide) k150 (fun _ h9 => h9) rfl dX5_passes_44 ?_
      refine lv_iconst (v := 1) hx hb dX5_passes_47 (by decide) ?_
      refine lv_iadd hx hb dX5_passes_48 ?_
      refine va_put (D := D) (ci := 5) (v := .int ((h_5 16 9) + (1 : Int32))) (ty := .int) (C := RX5) (T := TX5) (N := 27) hx hb hts hw5 tyX5 tyX5_ok nmX5 hown hK hP hD hS 0 cM_at0 rfl 22 (by decide) k150 (fun _ h9 => h9) rfl (tyX5_ok 22 (by decide)) rfl rfl (Nat.le_of_ble_eq_true rfl) dX5_passes_49 (fun H locs hP hD hS => ?_)
      obtain ⟨h_6, eh_6, hf⟩ := nm_e hf
      rw [cM_sc0_22, ← eh_6] at hP hD
      obtain ⟨v_7, ev_7, hf⟩ := nm_e hf
      refine lv_iinc (v := v_7) (lv' := [(2, .int v_7), (0, .ref (A 0)), (1, .ref (A 8))]) hx hb dX5_passes_52 hl (k := 2) rfl (by rw [ev_7]; rfl) (by decide) rfl (fun ls hl => ?_)
      refine lv_goto (tgt := 2) hx hb dX5_passes_55 (by decide) ?_
      exact ih2 (v_7, h_6) hf H locs ls hP hD hS (lv_sub hl [1, 2, 0] rfl)
    · replace hf := if_f c_2 hf
      refine lv_aload_n hx hb dX5_passes_15 rfl (lv_at hl 0 rfl) ?_
      refine va_get (D := D) (ci := 5) (v := .ref (A 13)) (C := RX5) (T := TX5) (N := 27) hx hb hts hw5 hown hK hP 0 cM_at0 rfl 19 (by decide) k46 (fun _ h9 => h9) rfl dX5_passes_16 ?_
      refine lv_aload_n hx hb dX5_passes_19 rfl (lv_at hl 0 rfl) ?_
      refine va_get (D := D) (ci := 5) (v := .int (q2.2 16 9)) (C := RX5) (T := TX5) (N := 27) hx hb hts hw5 hown hK hP 0 cM_at0 rfl 22 (by decide) k150 (fun _ h9 => h9) rfl dX5_passes_20 ?_
      refine lv_aload_n hx hb dX5_passes_23 rfl (lv_at hl 1 rfl) ?_
      refine lv_iload_n hx hb dX5_passes_24 rfl (lv_at hl 2 rfl) ?_
      obtain ⟨c_8, hf⟩ := gi_e hf
      refine va_iald hx hb hK hP 8 0 cM_at8 rfl c_8 dX5_passes_25 ?_
      obtain ⟨c_9, hf⟩ := gi_e hf
      refine va_iast hx hb hK hP hD hS 13 0 cM_at13 rfl c_9 dX5_passes_26 (fun H locs hP hD hS => ?_)
      obtain ⟨h_10, eh_10, hf⟩ := nm_e hf
      rw [cM_su13, ← eh_10] at hP hD
      refine lv_goto (tgt := 42) hx hb dX5_passes_27 (by decide) ?_
      refine lv_aload_n hx hb dX5_passes_42 rfl (lv_at hl 0 rfl) ?_
      refine lv_dup hx hb dX5_passes_43 rfl ?_
      refine va_get (D := D) (ci := 5) (v := .int (h_10 16 9)) (C := RX5) (T := TX5) (N := 27) hx hb hts hw5 hown hK hP 0 cM_at0 rfl 22 (by decide) k150 (fun _ h9 => h9) rfl dX5_passes_44 ?_
      refine lv_iconst (v := 1) hx hb dX5_passes_47 (by decide) ?_
      refine lv_iadd hx hb dX5_passes_48 ?_
      refine va_put (D := D) (ci := 5) (v := .int ((h_10 16 9) + (1 : Int32))) (ty := .int) (C := RX5) (T := TX5) (N := 27) hx hb hts hw5 tyX5 tyX5_ok nmX5 hown hK hP hD hS 0 cM_at0 rfl 22 (by decide) k150 (fun _ h9 => h9) rfl (tyX5_ok 22 (by decide)) rfl rfl (Nat.le_of_ble_eq_true rfl) dX5_passes_49 (fun H locs hP hD hS => ?_)
      obtain ⟨h_11, eh_11, hf⟩ := nm_e hf
      rw [cM_sc0_22, ← eh_11] at hP hD
      obtain ⟨v_12, ev_12, hf⟩ := nm_e hf
      refine lv_iinc (v := v_12) (lv' := [(2, .int v_12), (0, .ref (A 0)), (1, .ref (A 8))]) hx hb dX5_passes_52 hl (k := 2) rfl (by rw [ev_12]; rfl) (by decide) rfl (fun ls hl => ?_)
      refine lv_goto (tgt := 2) hx hb dX5_passes_55 (by decide) ?_
      exact ih2 (v_12, h_11) hf H locs ls hP hD hS (lv_sub hl [1, 2, 0] rfl)

def f_X5_passOne (M : St) (p1 : Int32) : Option (Int32 × St) := (if (M 16 8) = 0 then (gi (M 16 9) 153 (nm (M 12 ((M 16 9)).toNatClampNeg) fun v_3 => (if (M 16 8) = 0 then (nm (su M 16 9 ((M 16 9) + (1 : Int32))) fun h_5 => (some (v_3, h_5))) else (gi (M 16 9) 153 (nm (su M 12 ((M 16 9)).toNatClampNeg p1) fun h_7 => (nm (su h_7 16 9 ((h_7 16 9) + (1 : Int32))) fun h_8 => (some (v_3, h_8)))))))) else (if (M 16 8) = 0 then (nm (su M 16 9 ((M 16 9) + (1 : Int32))) fun h_10 => (some (p1, h_10))) else (gi (M 16 9) 153 (nm (su M 12 ((M 16 9)).toNatClampNeg p1) fun h_12 => (nm (su h_12 16 9 ((h_12 16 9) + (1 : Int32))) fun h_13 => (some (p1, h_13)))))))
def rm_X5_passOne : Room := { frames := 0, cells := 0, slots := 0, locals := 0 }
theorem hd_X5_passOne : yX5_passOne.cls = RX5 ∧ yX5_passOne.cls ≠ "java/lang/invoke/MethodHandle" ∧ yX5_passOne.cls ≠ "java/lang/invoke/VarHandle" ∧ (parseMethodDescriptor yX5_passOne.desc).map (fun d => d.parameters.length) = some 1 := by decide +kernel
set_option maxRecDepth 100000 in
set_option maxHeartbeats 4000000 in
theorem c_X5_passOne (l : Launch) (D : va_G) (cI : ClassId) (A : Nat → Nat) (M : St) (p1 : Int32) (r : Int32 × St) (hf : f_X5_passOne M p1 = some r) : Ct l yX5_passOne wsX5_passOne rm_X5_passOne D cI (cM cI A M) (cM cI A r.2) [.ref (A 0), .int p1] (some (.int r.1)) := by
  unfold f_X5_passOne at hf
  refine Ct.ofI (cc := cX5_passOne) (maxL := 3) (by decide +kernel) rfl (Nat.le_of_ble_eq_true rfl) ?_
  intro p e s m args below meth c AA Q H locs ls hx hb hml hown hts hA hK hP hD hS hl hend0
  have hend : ∀ (r1 : Int32 × St) (H : Heap) (locs : List Loc) (pc : Nat) (ls : Array Slot), some r1 = some r → va_P D vwCl (cM cI A r1.2) H → va_S AA s.heap H locs → decode cX5_passOne pc = .ok (.ireturn, 1) → W p l e rm_X5_passOne s m args below meth c H locs 0 0 Q (F0 m pc ls [.int r1.1]) := by
    intro r1 H locs pc ls e1 hP hS hd; cases e1; exact hend0 H locs pc ls hP hS hd
  clear hend0
  have hw5 : ∀ w ∈ wsX50, w ∈ wsX5_passOne := by decide +kernel
  have k46 := hts (.fieldLink RX5 46 "AnchorsForConfessionModel" "kept" "[I") (by decide +kernel)
  have k146 := hts (.fieldLink RX5 146 "AnchorsForConfessionModel" "isKeeping" "Z") (by decide +kernel)
  have k150 := hts (.fieldLink RX5 150 "AnchorsForConfessionModel" "cursor" "I") (by decide +kernel)
  replace hl : lv_has ls 3 [(0, .ref (A 0)), (1, .int p1)] := hl
  refine lv_aload_n hx hb dX5_passOne_0 rfl (lv_at hl 0 rfl) ?_
  refine va_get (D := D) (ci := 5) (v := .int (M 16 8)) (C := RX5) (T := TX5) (N := 27) hx hb hts hw5 hown hK hP 0 cM_at0 rfl 21 (by decide) k146 (fun _ h9 => h9) rfl dX5_passOne_1 ?_
  refine lv_if_eq (tgt := 11) hx hb dX5_passOne_4 (by decide) (fun c_1 => ?_) (fun c_1 => ?_)
  · replace hf := if_t c_1 hf
    refine lv_aload_n hx hb dX5_passOne_11 rfl (lv_at hl 0 rfl) ?_
    refine va_get (D := D) (ci := 5) (v := .ref (A 13)) (C := RX5) (T := TX5) (N := 27) hx hb hts hw5 hown hK hP 0 cM_at0 rfl 19 (by decide) k46 (fun _ h9 => h9) rfl dX5_passOne_12 ?_
    refine lv_aload_n hx hb dX5_passOne_15 rfl (lv_at hl 0 rfl) ?_
    refine va_get (D := D) (ci := 5) (v := .int (M 16 9)) (C := RX5) (T := TX5) (N := 27) hx hb hts hw5 hown hK hP 0 cM_at0 rfl 22 (by decide) k150 (fun _ h9 => h9) rfl dX5_passOne_16 ?_
    obtain ⟨c_2, hf⟩ := gi_e hf
    refine va_iald hx hb hK hP 13 0 cM_at13 rfl c_2 dX5_passOne_19 ?_
    refine lv_topi (fun v_3 ev_3 => ?_)
    replace hf := nm_at ev_3 hf
    refine lv_istore_n (lv' := [(2, .int v_3), (0, .ref (A 0)), (1, .int p1)]) hx hb dX5_passOne_20 rfl hl (by decide) rfl (fun ls hl => ?_)
    refine lv_aload_n hx hb dX5_passOne_21 rfl (lv_at hl 1 rfl) ?_
    refine va_get (D := D) (ci := 5) (v := .int (M 16 8)) (C := RX5) (T := TX5) (N := 27) hx hb hts hw5 hown hK hP 0 cM_at0 rfl 21 (by decide) k146 (fun _ h9 => h9) rfl dX5_passOne_22 ?_
    refine lv_if_eq (tgt := 38) hx hb dX5_passOne_25 (by decide) (fun c_4 => ?_) (fun c_4 => ?_)
    · replace hf := if_t c_4 hf
      refine lv_aload_n hx hb dX5_passOne_38 rfl (lv_at hl 1 rfl) ?_
      refine lv_dup hx hb dX5_passOne_39 rfl ?_
      refine va_get (D := D) (ci := 5) (v := .int (M 16 9)) (C := RX5) (T := TX5) (N := 27) hx hb hts hw5 hown hK hP 0 cM_at0 rfl 22 (by decide) k150 (fun _ h9 => h9) rfl dX5_passOne_40 ?_
      refine lv_iconst (v := 1) hx hb dX5_passOne_43 (by decide) ?_
      refine lv_iadd hx hb dX5_passOne_44 ?_
      refine va_put (D := D) (ci := 5) (v := .int ((M 16 9) + (1 : Int32))) (ty := .int) (C := RX5) (T := TX5) (N := 27) hx hb hts hw5 tyX5 tyX5_ok nmX5 hown hK hP hD hS 0 cM_at0 rfl 22 (by decide) k150 (fun _ h9 => h9) rfl (tyX5_ok 22 (by decide)) rfl rfl (Nat.le_of_ble_eq_true rfl) dX5_passOne_45 (fun H locs hP hD hS => ?_)
      obtain ⟨h_5, eh_5, hf⟩ := nm_e hf
      rw [cM_sc0_22, ← eh_5] at hP hD
      refine lv_iload_n hx hb dX5_passOne_48 rfl (lv_at hl 0 rfl) ?_
      exact hend (v_3, h_5) H locs _ _ hf hP hS dX5_passOne_49
    · replace hf := if_f c_4 hf
      refine lv_aload_n hx hb dX5_passOne_28 rfl (lv_at hl 1 rfl) ?_
      refine va_get (D := D) (ci := 5) (v := .ref (A 13)) (C := RX5) (T := TX5) (N := 27) hx hb hts hw5 hown hK hP 0 cM_at0 rfl 19 (by decide) k46 (fun _ h9 => h9) rfl dX5_passOne_29 ?_
      refine lv_aload_n hx hb dX5_passOne_32 rfl (lv_at hl 1 rfl) ?_
      refine va_get (D := D) (ci := 5) (v := .int (M 16 9)) (C := RX5) (T := TX5) (N := 27) hx hb hts hw5 hown hK hP 0 cM_at0 rfl 22 (by decide) k150 (fun _ h9 => h9) rfl dX5_passOne_33 ?_
      refine lv_iload_n hx hb dX5_passOne_36 rfl (lv_at hl 2 rfl) ?_
      obtain ⟨c_6, hf⟩ := gi_e hf
      refine va_iast hx hb hK hP hD hS 13 0 cM_at13 rfl c_6 dX5_passOne_37 (fun H locs hP hD hS => ?_)
      obtain ⟨h_7, eh_7, hf⟩ := nm_e hf
      rw [cM_su13, ← eh_7] at hP hD
      refine lv_aload_n hx hb dX5_passOne_38 rfl (lv_at hl 1 rfl) ?_
      refine lv_dup hx hb dX5_passOne_39 rfl ?_
      refine va_get (D := D) (ci := 5) (v := .int (h_7 16 9)) (C := RX5) (T := TX5) (N := 27) hx hb hts hw5 hown hK hP 0 cM_at0 rfl 22 (by decide) k150 (fun _ h9 => h9) rfl dX5_passOne_40 ?_
      refine lv_iconst (v := 1) hx hb dX5_passOne_43 (by decide) ?_
      refine lv_iadd hx hb dX5_passOne_44 ?_
      refine va_put (D := D) (ci := 5) (v := .int ((h_7 16 9) + (1 : Int32))) (ty := .int) (C := RX5) (T := TX5) (N := 27) hx hb hts hw5 tyX5 tyX5_ok nmX5 hown hK hP hD hS 0 cM_at0 rfl 22 (by decide) k150 (fun _ h9 => h9) rfl (tyX5_ok 22 (by decide)) rfl rfl (Nat.le_of_ble_eq_true rfl) dX5_passOne_45 (fun H locs hP hD hS => ?_)
      obtain ⟨h_8, eh_8, hf⟩ := nm_e hf
      rw [cM_sc0_22, ← eh_8] at hP hD
      refine lv_iload_n hx hb dX5_passOne_48 rfl (lv_at hl 0 rfl) ?_
      exact hend (v_3, h_8) H locs _ _ hf hP hS dX5_passOne_49
  · replace hf := if_f c_1 hf
    refine lv_iload_n hx hb dX5_passOne_7 rfl (lv_at hl 1 rfl) ?_
    refine lv_goto (tgt := 20) hx hb dX5_passOne_8 (by decide) ?_
    refine lv_istore_n (lv' := [(2, .int p1), (0, .ref (A 0)), (1, .int p1)]) hx hb dX5_passOne_20 rfl hl (by decide) rfl (fun ls hl => ?_)
    refine lv_aload_n hx hb dX5_passOne_21 rfl (lv_at hl 1 rfl) ?_
    refine va_get (D := D) (ci := 5) (v := .int (M 16 8)) (C := RX5) (T := TX5) (N := 27) hx hb hts hw5 hown hK hP 0 cM_at0 rfl 21 (by decide) k146 (fun _ h9 => h9) rfl dX5_passOne_22 ?_
    refine lv_if_eq (tgt := 38) hx hb dX5_passOne_25 (by decide) (fun c_9 => ?_) (fun c_9 => ?_)
    · replace hf := if_t c_9 hf
      refine lv_aload_n hx hb dX5_passOne_38 rfl (lv_at hl 1 rfl) ?_
      refine lv_dup hx hb dX5_passOne_39 rfl ?_
      refine va_get (D := D) (ci := 5) (v := .int (M 16 9)) (C := RX5) (T := TX5) (N := 27) hx hb hts hw5 hown hK hP 0 cM_at0 rfl 22 (by decide) k150 (fun _ h9 => h9) rfl dX5_passOne_40 ?_
      refine lv_iconst (v := 1) hx hb dX5_passOne_43 (by decide) ?_
      refine lv_iadd hx hb dX5_passOne_44 ?_
      refine va_put (D := D) (ci := 5) (v := .int ((M 16 9) + (1 : Int32))) (ty := .int) (C := RX5) (T := TX5) (N := 27) hx hb hts hw5 tyX5 tyX5_ok nmX5 hown hK hP hD hS 0 cM_at0 rfl 22 (by decide) k150 (fun _ h9 => h9) rfl (tyX5_ok 22 (by decide)) rfl rfl (Nat.le_of_ble_eq_true rfl) dX5_passOne_45 (fun H locs hP hD hS => ?_)
      obtain ⟨h_10, eh_10, hf⟩ := nm_e hf
      rw [cM_sc0_22, ← eh_10] at hP hD
      refine lv_iload_n hx hb dX5_passOne_48 rfl (lv_at hl 0 rfl) ?_
      exact hend (p1, h_10) H locs _ _ hf hP hS dX5_passOne_49
    · replace hf := if_f c_9 hf
      refine lv_aload_n hx hb dX5_passOne_28 rfl (lv_at hl 1 rfl) ?_
      refine va_get (D := D) (ci := 5) (v := .ref (A 13)) (C := RX5) (T := TX5) (N := 27) hx hb hts hw5 hown hK hP 0 cM_at0 rfl 19 (by decide) k46 (fun _ h9 => h9) rfl dX5_passOne_29 ?_
      refine lv_aload_n hx hb dX5_passOne_32 rfl (lv_at hl 1 rfl) ?_
      refine va_get (D := D) (ci := 5) (v := .int (M 16 9)) (C := RX5) (T := TX5) (N := 27) hx hb hts hw5 hown hK hP 0 cM_at0 rfl 22 (by decide) k150 (fun _ h9 => h9) rfl dX5_passOne_33 ?_
      refine lv_iload_n hx hb dX5_passOne_36 rfl (lv_at hl 2 rfl) ?_
      obtain ⟨c_11, hf⟩ := gi_e hf
      refine va_iast hx hb hK hP hD hS 13 0 cM_at13 rfl c_11 dX5_passOne_37 (fun H locs hP hD hS => ?_)
      obtain ⟨h_12, eh_12, hf⟩ := nm_e hf
      rw [cM_su13, ← eh_12] at hP hD
      refine lv_aload_n hx hb dX5_passOne_38 rfl (lv_at hl 1 rfl) ?_
      refine lv_dup hx hb dX5_passOne_39 rfl ?_
      refine va_get (D := D) (ci := 5) (v := .int (h_12 16 9)) (C := RX5) (T := TX5) (N := 27) hx hb hts hw5 hown hK hP 0 cM_at0 rfl 22 (by decide) k150 (fun _ h9 => h9) rfl dX5_passOne_40 ?_
      refine lv_iconst (v := 1) hx hb dX5_passOne_43 (by decide) ?_
      refine lv_iadd hx hb dX5_passOne_44 ?_
      refine va_put (D := D) (ci := 5) (v := .int ((h_12 16 9) + (1 : Int32))) (ty := .int) (C := RX5) (T := TX5) (N := 27) hx hb hts hw5 tyX5 tyX5_ok nmX5 hown hK hP hD hS 0 cM_at0 rfl 22 (by decide) k150 (fun _ h9 => h9) rfl (tyX5_ok 22 (by decide)) rfl rfl (Nat.le_of_ble_eq_true rfl) dX5_passOne_45 (fun H locs hP hD hS => ?_)
      obtain ⟨h_13, eh_13, hf⟩ := nm_e hf
      rw [cM_sc0_22, ← eh_13] at hP hD
      refine lv_iload_n hx hb dX5_passOne_48 rfl (lv_at hl 0 rfl) ?_
      exact hend (p1, h_13) H locs _ _ hf hP hS dX5_passOne_49

def f_X5_passesAll (M : St) (p1 : Int32) (p2 : Int32) : Option (St) := (nm (su M 16 9 ((51 : Int32) * p1)) fun h_1 => (gd (p2 = 0 ∨ p2 = 1) (nm (su h_1 16 8 p2) fun h_3 => (bd (f_X5_passes_a2 h_3) fun a_4 => (bd (f_X5_passes_a3 a_4) fun a_5 => (bd (f_X5_passes_a4 a_5) fun a_6 => (bd (f_X5_passes_a5 a_6) fun a_7 => (bd (f_X5_passes_a6 a_7) fun a_8 => (bd (f_X5_passes_a7 a_8) fun a_9 => (bd (f_X5_passes_a8 a_9) fun a_10 => (bd (f_X5_passOne a_10 (a_10 16 0)) fun a_11 => (nm (su a_11.2 16 0 a_11.1) fun h_12 => (bd (f_X5_passOne h_12 (h_12 16 1)) fun a_13 => (nm (su a_13.2 16 1 a_13.1) fun h_14 => (bd (f_X5_passOne h_14 (h_14 16 2)) fun a_15 => (nm (su a_15.2 16 2 a_15.1) fun h_16 => (bd (f_X5_passOne h_16 (h_16 16 3)) fun a_17 => (nm (su a_17.2 16 3 a_17.1) fun h_18 => (some h_18)))))))))))))))))))
def rm_X5_passesAll : Room := { frames := 1, cells := 0, slots := 0, locals := 22 }
theorem hd_X5_passesAll : yX5_passesAll.cls = RX5 ∧ yX5_passesAll.cls ≠ "java/lang/invoke/MethodHandle" ∧ yX5_passesAll.cls ≠ "java/lang/invoke/VarHandle" ∧ (parseMethodDescriptor yX5_passesAll.desc).map (fun d => d.parameters.length) = some 2 := by decide +kernel
set_option maxRecDepth 100000 in
set_option maxHeartbeats 4000000 in
theorem c_X5_passesAll (l : Launch) (D : va_G) (cI : ClassId) (A : Nat → Nat) (M : St) (p1 : Int32) (p2 : Int32) (r : St) (hf : f_X5_passesAll M p1 p2 = some r) : Ct l yX5_passesAll wsX5_passesAll rm_X5_passesAll D cI (cM cI A M) (cM cI A r) [.ref (A 0), .int p1, .int p2] none := by
  unfold f_X5_passesAll at hf
  refine Ct.ofV (cc := cX5_passesAll) (maxL := 3) (by decide +kernel) rfl (Nat.le_of_ble_eq_true rfl) ?_
  intro p e s m args below meth c AA Q H locs ls hx hb hml hown hts hA hK hP hD hS hl hend0
  have hend : ∀ (r1 : St) (H : Heap) (locs : List Loc) (pc : Nat) (ls : Array Slot), some r1 = some r → va_P D vwCl (cM cI A r1) H → va_S AA s.heap H locs → decode cX5_passesAll pc = .ok (.return_, 1) → W p l e rm_X5_passesAll s m args below meth c H locs 0 0 Q (F0 m pc ls []) := by
    intro r1 H locs pc ls e1 hP hS hd; cases e1; exact hend0 H locs pc ls hP hS hd
  clear hend0
  have hw5 : ∀ w ∈ wsX50, w ∈ wsX5_passesAll := by decide +kernel
  have k13 := hts (.fieldLink RX5 13 "AnchorsForConfessionModel" "heavy" "[I") (by decide +kernel)
  have k16 := hts (.fieldLink RX5 16 "AnchorsForConfessionModel" "loose" "[I") (by decide +kernel)
  have k19 := hts (.fieldLink RX5 19 "AnchorsForConfessionModel" "out" "[I") (by decide +kernel)
  have k22 := hts (.fieldLink RX5 22 "AnchorsForConfessionModel" "kind" "[I") (by decide +kernel)
  have k25 := hts (.fieldLink RX5 25 "AnchorsForConfessionModel" "figure" "[I") (by decide +kernel)
  have k28 := hts (.fieldLink RX5 28 "AnchorsForConfessionModel" "sins" "[I") (by decide +kernel)
  have k31 := hts (.fieldLink RX5 31 "AnchorsForConfessionModel" "aboard" "[I") (by decide +kernel)
  have k58 := hts (.fieldLink RX5 58 "AnchorsForConfessionModel" "ships" "I") (by decide +kernel)
  have k65 := hts (.fieldLink RX5 65 "AnchorsForConfessionModel" "men" "I") (by decide +kernel)
  have k110 := hts (.fieldLink RX5 110 "AnchorsForConfessionModel" "tide" "I") (by decide +kernel)
  have k146 := hts (.fieldLink RX5 146 "AnchorsForConfessionModel" "isKeeping" "Z") (by decide +kernel)
  have k150 := hts (.fieldLink RX5 150 "AnchorsForConfessionModel" "cursor" "I") (by decide +kernel)
  have k160 := hts (.fieldLink RX5 160 "AnchorsForConfessionModel" "heard" "I") (by decide +kernel)
  replace hl : lv_has ls 3 [(0, .ref (A 0)), (1, .int p1), (2, .int p2)] := hl
  refine lv_aload_n hx hb dX5_passesAll_0 rfl (lv_at hl 0 rfl) ?_
  refine lv_bipush (v := 51) hx hb dX5_passesAll_1 (by decide +kernel) ?_
  refine lv_iload_n hx hb dX5_passesAll_3 rfl (lv_at hl 1 rfl) ?_
  refine lv_imul hx hb dX5_passesAll_4 ?_
  refine va_put (D := D) (ci := 5) (v := .int ((51 : Int32) * p1)) (ty := .int) (C := RX5) (T := TX5) (N := 27) hx hb hts hw5 tyX5 tyX5_ok nmX5 hown hK hP hD hS 0 cM_at0 rfl 22 (by decide) k150 (fun _ h9 => h9) rfl (tyX5_ok 22 (by decide)) rfl rfl (Nat.le_of_ble_eq_true rfl) dX5_passesAll_5 (fun H locs hP hD hS => ?_)
  obtain ⟨h_1, eh_1, hf⟩ := nm_e hf
  rw [cM_sc0_22, ← eh_1] at hP hD
  refine lv_aload_n hx hb dX5_passesAll_8 rfl (lv_at hl 0 rfl) ?_
  refine lv_iload_n hx hb dX5_passesAll_9 rfl (lv_at hl 2 rfl) ?_
  obtain ⟨c_2, hf⟩ := gd_e hf
  refine va_put (D := D) (ci := 5) (v := .int p2) (ty := .boolean) (C := RX5) (T := TX5) (N := 27) hx hb hts hw5 tyX5 tyX5_ok nmX5 hown hK hP hD hS 0 cM_at0 rfl 21 (by decide) k146 (fun _ h9 => h9) rfl (tyX5_ok 21 (by decide)) (nar_b c_2) rfl (Nat.le_of_ble_eq_true rfl) dX5_passesAll_10 (fun H locs hP hD hS => ?_)
  obtain ⟨h_3, eh_3, hf⟩ := nm_e hf
  rw [cM_sc0_21, ← eh_3] at hP hD
  refine lv_aload_n hx hb dX5_passesAll_13 rfl (lv_at hl 0 rfl) ?_
  refine lv_aload_n hx hb dX5_passesAll_14 rfl (lv_at hl 0 rfl) ?_
  refine va_get (D := D) (ci := 5) (v := .ref (A 2)) (C := RX5) (T := TX5) (N := 27) hx hb hts hw5 hown hK hP 0 cM_at0 rfl 1 (by decide) k13 (fun _ h9 => h9) rfl dX5_passesAll_15 ?_
  obtain ⟨a_4, ha_4, hf⟩ := bd_e hf
  refine Ct.callV (As := [.ref (A 2)]) (rest := []) (st1 := []) (c_X5_passes_a2 l D cI A h_3 a_4 ha_4) hx hb hml hown hts (cwV 1 hts gX5_passesAll_X5_passes rfl rfl rfl hd_X5_passes ⟨Nat.le_of_ble_eq_true rfl, Nat.le_of_ble_eq_true rfl⟩) (va_recv hK hP (ci := 5) (q0 := 0) rfl cM_at0) (Ln.id rfl) hA hK hP hD hS rfl hl.1 rfl rfl (Nat.le_of_ble_eq_true rfl) dX5_passesAll_18 (fun H locs hP hD hS => ?_)
  replace hP : va_P D vwCl (cM cI A a_4) H := hP
  replace hD : va_D AA (cM cI A a_4) := hD
  refine lv_aload_n hx hb dX5_passesAll_21 rfl (lv_at hl 0 rfl) ?_
  refine lv_aload_n hx hb dX5_passesAll_22 rfl (lv_at hl 0 rfl) ?_
  refine va_get (D := D) (ci := 5) (v := .ref (A 3)) (C := RX5) (T := TX5) (N := 27) hx hb hts hw5 hown hK hP 0 cM_at0 rfl 2 (by decide) k16 (fun _ h9 => h9) rfl dX5_passesAll_23 ?_
  obtain ⟨a_5, ha_5, hf⟩ := bd_e hf
  refine Ct.callV (As := [.ref (A 3)]) (rest := []) (st1 := []) (c_X5_passes_a3 l D cI A a_4 a_5 ha_5) hx hb hml hown hts (cwV 1 hts gX5_passesAll_X5_passes rfl rfl rfl hd_X5_passes ⟨Nat.le_of_ble_eq_true rfl, Nat.le_of_ble_eq_true rfl⟩) (va_recv hK hP (ci := 5) (q0 := 0) rfl cM_at0) (Ln.id rfl) hA hK hP hD hS rfl hl.1 rfl rfl (Nat.le_of_ble_eq_true rfl) dX5_passesAll_26 (fun H locs hP hD hS => ?_)
  replace hP : va_P D vwCl (cM cI A a_5) H := hP
  replace hD : va_D AA (cM cI A a_5) := hD
  refine lv_aload_n hx hb dX5_passesAll_29 rfl (lv_at hl 0 rfl) ?_
  refine lv_aload_n hx hb dX5_passesAll_30 rfl (lv_at hl 0 rfl) ?_
  refine va_get (D := D) (ci := 5) (v := .ref (A 4)) (C := RX5) (T := TX5) (N := 27) hx hb hts hw5 hown hK hP 0 cM_at0 rfl 3 (by decide) k19 (fun _ h9 => h9) rfl dX5_passesAll_31 ?_
  obtain ⟨a_6, ha_6, hf⟩ := bd_e hf
  refine Ct.callV (As := [.ref (A 4)]) (rest := []) (st1 := []) (c_X5_passes_a4 l D cI A a_5 a_6 ha_6) hx hb hml hown hts (cwV 1 hts gX5_passesAll_X5_passes rfl rfl rfl hd_X5_passes ⟨Nat.le_of_ble_eq_true rfl, Nat.le_of_ble_eq_true rfl⟩) (va_recv hK hP (ci := 5) (q0 := 0) rfl cM_at0) (Ln.id rfl) hA hK hP hD hS rfl hl.1 rfl rfl (Nat.le_of_ble_eq_true rfl) dX5_passesAll_34 (fun H locs hP hD hS => ?_)
  replace hP : va_P D vwCl (cM cI A a_6) H := hP
  replace hD : va_D AA (cM cI A a_6) := hD
  refine lv_aload_n hx hb dX5_passesAll_37 rfl (lv_at hl 0 rfl) ?_
  refine lv_aload_n hx hb dX5_passesAll_38 rfl (lv_at hl 0 rfl) ?_
  refine va_get (D := D) (ci := 5) (v := .ref (A 5)) (C := RX5) (T := TX5) (N := 27) hx hb hts hw5 hown hK hP 0 cM_at0 rfl 4 (by decide) k22 (fun _ h9 => h9) rfl dX5_passesAll_39 ?_
  obtain ⟨a_7, ha_7, hf⟩ := bd_e hf
  refine Ct.callV (As := [.ref (A 5)]) (rest := []) (st1 := []) (c_X5_passes_a5 l D cI A a_6 a_7 ha_7) hx hb hml hown hts (cwV 1 hts gX5_passesAll_X5_passes rfl rfl rfl hd_X5_passes ⟨Nat.le_of_ble_eq_true rfl, Nat.le_of_ble_eq_true rfl⟩) (va_recv hK hP (ci := 5) (q0 := 0) rfl cM_at0) (Ln.id rfl) hA hK hP hD hS rfl hl.1 rfl rfl (Nat.le_of_ble_eq_true rfl) dX5_passesAll_42 (fun H locs hP hD hS => ?_)
  replace hP : va_P D vwCl (cM cI A a_7) H := hP
  replace hD : va_D AA (cM cI A a_7) := hD
  refine lv_aload_n hx hb dX5_passesAll_45 rfl (lv_at hl 0 rfl) ?_
  refine lv_aload_n hx hb dX5_passesAll_46 rfl (lv_at hl 0 rfl) ?_
  refine va_get (D := D) (ci := 5) (v := .ref (A 6)) (C := RX5) (T := TX5) (N := 27) hx hb hts hw5 hown hK hP 0 cM_at0 rfl 5 (by decide) k25 (fun _ h9 => h9) rfl dX5_passesAll_47 ?_
  obtain ⟨a_8, ha_8, hf⟩ := bd_e hf
  refine Ct.callV (As := [.ref (A 6)]) (rest := []) (st1 := []) (c_X5_passes_a6 l D cI A a_7 a_8 ha_8) hx hb hml hown hts (cwV 1 hts gX5_passesAll_X5_passes rfl rfl rfl hd_X5_passes ⟨Nat.le_of_ble_eq_true rfl, Nat.le_of_ble_eq_true rfl⟩) (va_recv hK hP (ci := 5) (q0 := 0) rfl cM_at0) (Ln.id rfl) hA hK hP hD hS rfl hl.1 rfl rfl (Nat.le_of_ble_eq_true rfl) dX5_passesAll_50 (fun H locs hP hD hS => ?_)
  replace hP : va_P D vwCl (cM cI A a_8) H := hP
  replace hD : va_D AA (cM cI A a_8) := hD
  refine lv_aload_n hx hb dX5_passesAll_53 rfl (lv_at hl 0 rfl) ?_
  refine lv_aload_n hx hb dX5_passesAll_54 rfl (lv_at hl 0 rfl) ?_
  refine va_get (D := D) (ci := 5) (v := .ref (A 7)) (C := RX5) (T := TX5) (N := 27) hx hb hts hw5 hown hK hP 0 cM_at0 rfl 6 (by decide) k28 (fun _ h9 => h9) rfl dX5_passesAll_55 ?_
  obtain ⟨a_9, ha_9, hf⟩ := bd_e hf
  refine Ct.callV (As := [.ref (A 7)]) (rest := []) (st1 := []) (c_X5_passes_a7 l D cI A a_8 a_9 ha_9) hx hb hml hown hts (cwV 1 hts gX5_passesAll_X5_passes rfl rfl rfl hd_X5_passes ⟨Nat.le_of_ble_eq_true rfl, Nat.le_of_ble_eq_true rfl⟩) (va_recv hK hP (ci := 5) (q0 := 0) rfl cM_at0) (Ln.id rfl) hA hK hP hD hS rfl hl.1 rfl rfl (Nat.le_of_ble_eq_true rfl) dX5_passesAll_58 (fun H locs hP hD hS => ?_)
  replace hP : va_P D vwCl (cM cI A a_9) H := hP
  replace hD : va_D AA (cM cI A a_9) := hD
  refine lv_aload_n hx hb dX5_passesAll_61 rfl (lv_at hl 0 rfl) ?_
  refine lv_aload_n hx hb dX5_passesAll_62 rfl (lv_at hl 0 rfl) ?_
  refine va_get (D := D) (ci := 5) (v := .ref (A 8)) (C := RX5) (T := TX5) (N := 27) hx hb hts hw5 hown hK hP 0 cM_at0 rfl 7 (by decide) k31 (fun _ h9 => h9) rfl dX5_passesAll_63 ?_
  obtain ⟨a_10, ha_10, hf⟩ := bd_e hf
  refine Ct.callV (As := [.ref (A 8)]) (rest := []) (st1 := []) (c_X5_passes_a8 l D cI A a_9 a_10 ha_10) hx hb hml hown hts (cwV 1 hts gX5_passesAll_X5_passes rfl rfl rfl hd_X5_passes ⟨Nat.le_of_ble_eq_true rfl, Nat.le_of_ble_eq_true rfl⟩) (va_recv hK hP (ci := 5) (q0 := 0) rfl cM_at0) (Ln.id rfl) hA hK hP hD hS rfl hl.1 rfl rfl (Nat.le_of_ble_eq_true rfl) dX5_passesAll_66 (fun H locs hP hD hS => ?_)
  replace hP : va_P D vwCl (cM cI A a_10) H := hP
  replace hD : va_D AA (cM cI A a_10) := hD
  refine lv_aload_n hx hb dX5_passesAll_69 rfl (lv_at hl 0 rfl) ?_
  refine lv_aload_n hx hb dX5_passesAll_70 rfl (lv_at hl 0 rfl) ?_
  refine lv_aload_n hx hb dX5_passesAll_71 rfl (lv_at hl 0 rfl) ?_
  refine va_get (D := D) (ci := 5) (v := .int (a_10 16 0)) (C := RX5) (T := TX5) (N := 27) hx hb hts hw5 hown hK hP 0 cM_at0 rfl 8 (by decide) k58 (fun _ h9 => h9) rfl dX5_passesAll_72 ?_
  obtain ⟨a_11, ha_11, hf⟩ := bd_e hf
  refine Ct.callV (As := [.int (a_10 16 0)]) (rest := [.ref (A 0)]) (st1 := [.int a_11.1, .ref (A 0)]) (c_X5_passOne l D cI A a_10 (a_10 16 0) a_11 ha_11) hx hb hml hown hts (cwV 1 hts gX5_passesAll_X5_passOne rfl rfl rfl hd_X5_passOne ⟨Nat.le_of_ble_eq_true rfl, Nat.le_of_ble_eq_true rfl⟩) (va_recv hK hP (ci := 5) (q0 := 0) rfl cM_at0) (Ln.id rfl) hA hK hP hD hS rfl hl.1 rfl rfl (Nat.le_of_ble_eq_true rfl) dX5_passesAll_75 (fun H locs hP hD hS => ?_)
  replace hP : va_P D vwCl (cM cI A a_11.2) H := hP
  replace hD : va_D AA (cM cI A a_11.2) := hD
  refine va_put (D := D) (ci := 5) (v := .int a_11.1) (ty := .int) (C := RX5) (T := TX5) (N := 27) hx hb hts hw5 tyX5 tyX5_ok nmX5 hown hK hP hD hS 0 cM_at0 rfl 8 (by decide) k58 (fun _ h9 => h9) rfl (tyX5_ok 8 (by decide)) rfl rfl (Nat.le_of_ble_eq_true rfl) dX5_passesAll_78 (fun H locs hP hD hS => ?_)
  obtain ⟨h_12, eh_12, hf⟩ := nm_e hf
  rw [cM_sc0_8, ← eh_12] at hP hD
  refine lv_aload_n hx hb dX5_passesAll_81 rfl (lv_at hl 0 rfl) ?_
  refine lv_aload_n hx hb dX5_passesAll_82 rfl (lv_at hl 0 rfl) ?_
  refine lv_aload_n hx hb dX5_passesAll_83 rfl (lv_at hl 0 rfl) ?_
  refine va_get (D := D) (ci := 5) (v := .int (h_12 16 1)) (C := RX5) (T := TX5) (N := 27) hx hb hts hw5 hown hK hP 0 cM_at0 rfl 9 (by decide) k65 (fun _ h9 => h9) rfl dX5_passesAll_84 ?_
  obtain ⟨a_13, ha_13, hf⟩ := bd_e hf
  refine Ct.callV (As := [.int (h_12 16 1)]) (rest := [.ref (A 0)]) (st1 := [.int a_13.1, .ref (A 0)]) (c_X5_passOne l D cI A h_12 (h_12 16 1) a_13 ha_13) hx hb hml hown hts (cwV 1 hts gX5_passesAll_X5_passOne rfl rfl rfl hd_X5_passOne ⟨Nat.le_of_ble_eq_true rfl, Nat.le_of_ble_eq_true rfl⟩) (va_recv hK hP (ci := 5) (q0 := 0) rfl cM_at0) (Ln.id rfl) hA hK hP hD hS rfl hl.1 rfl rfl (Nat.le_of_ble_eq_true rfl) dX5_passesAll_87 (fun H locs hP hD hS => ?_)
  replace hP : va_P D vwCl (cM cI A a_13.2) H := hP
  replace hD : va_D AA (cM cI A a_13.2) := hD
  refine va_put (D := D) (ci := 5) (v := .int a_13.1) (ty := .int) (C := RX5) (T := TX5) (N := 27) hx hb hts hw5 tyX5 tyX5_ok nmX5 hown hK hP hD hS 0 cM_at0 rfl 9 (by decide) k65 (fun _ h9 => h9) rfl (tyX5_ok 9 (by decide)) rfl rfl (Nat.le_of_ble_eq_true rfl) dX5_passesAll_90 (fun H locs hP hD hS => ?_)
  obtain ⟨h_14, eh_14, hf⟩ := nm_e hf
  rw [cM_sc0_9, ← eh_14] at hP hD
  refine lv_aload_n hx hb dX5_passesAll_93 rfl (lv_at hl 0 rfl) ?_
  refine lv_aload_n hx hb dX5_passesAll_94 rfl (lv_at hl 0 rfl) ?_
  refine lv_aload_n hx hb dX5_passesAll_95 rfl (lv_at hl 0 rfl) ?_
  refine va_get (D := D) (ci := 5) (v := .int (h_14 16 2)) (C := RX5) (T := TX5) (N := 27) hx hb hts hw5 hown hK hP 0 cM_at0 rfl 10 (by decide) k160 (fun _ h9 => h9) rfl dX5_passesAll_96 ?_
  obtain ⟨a_15, ha_15, hf⟩ := bd_e hf
  refine Ct.callV (As := [.int (h_14 16 2)]) (rest := [.ref (A 0)]) (st1 := [.int a_15.1, .ref (A 0)]) (c_X5_passOne l D cI A h_14 (h_14 16 2) a_15 ha_15) hx hb hml hown hts (cwV 1 hts gX5_passesAll_X5_passOne rfl rfl rfl hd_X5_passOne ⟨Nat.le_of_ble_eq_true rfl, Nat.le_of_ble_eq_true rfl⟩) (va_recv hK hP (ci := 5) (q0 := 0) rfl cM_at0) (Ln.id rfl) hA hK hP hD hS rfl hl.1 rfl rfl (Nat.le_of_ble_eq_true rfl) dX5_passesAll_99 (fun H locs hP hD hS => ?_)
  replace hP : va_P D vwCl (cM cI A a_15.2) H := hP
  replace hD : va_D AA (cM cI A a_15.2) := hD
  refine va_put (D := D) (ci := 5) (v := .int a_15.1) (ty := .int) (C := RX5) (T := TX5) (N := 27) hx hb hts hw5 tyX5 tyX5_ok nmX5 hown hK hP hD hS 0 cM_at0 rfl 10 (by decide) k160 (fun _ h9 => h9) rfl (tyX5_ok 10 (by decide)) rfl rfl (Nat.le_of_ble_eq_true rfl) dX5_passesAll_102 (fun H locs hP hD hS => ?_)
  obtain ⟨h_16, eh_16, hf⟩ := nm_e hf
  rw [cM_sc0_10, ← eh_16] at hP hD
  refine lv_aload_n hx hb dX5_passesAll_105 rfl (lv_at hl 0 rfl) ?_
  refine lv_aload_n hx hb dX5_passesAll_106 rfl (lv_at hl 0 rfl) ?_
  refine lv_aload_n hx hb dX5_passesAll_107 rfl (lv_at hl 0 rfl) ?_
  refine va_get (D := D) (ci := 5) (v := .int (h_16 16 3)) (C := RX5) (T := TX5) (N := 27) hx hb hts hw5 hown hK hP 0 cM_at0 rfl 11 (by decide) k110 (fun _ h9 => h9) rfl dX5_passesAll_108 ?_
  obtain ⟨a_17, ha_17, hf⟩ := bd_e hf
  refine Ct.callV (As := [.int (h_16 16 3)]) (rest := [.ref (A 0)]) (st1 := [.int a_17.1, .ref (A 0)]) (c_X5_passOne l D cI A h_16 (h_16 16 3) a_17 ha_17) hx hb hml hown hts (cwV 1 hts gX5_passesAll_X5_passOne rfl rfl rfl hd_X5_passOne ⟨Nat.le_of_ble_eq_true rfl, Nat.le_of_ble_eq_true rfl⟩) (va_recv hK hP (ci := 5) (q0 := 0) rfl cM_at0) (Ln.id rfl) hA hK hP hD hS rfl hl.1 rfl rfl (Nat.le_of_ble_eq_true rfl) dX5_passesAll_111 (fun H locs hP hD hS => ?_)
  replace hP : va_P D vwCl (cM cI A a_17.2) H := hP
  replace hD : va_D AA (cM cI A a_17.2) := hD
  refine va_put (D := D) (ci := 5) (v := .int a_17.1) (ty := .int) (C := RX5) (T := TX5) (N := 27) hx hb hts hw5 tyX5 tyX5_ok nmX5 hown hK hP hD hS 0 cM_at0 rfl 11 (by decide) k110 (fun _ h9 => h9) rfl (tyX5_ok 11 (by decide)) rfl rfl (Nat.le_of_ble_eq_true rfl) dX5_passesAll_114 (fun H locs hP hD hS => ?_)
  obtain ⟨h_18, eh_18, hf⟩ := nm_e hf
  rw [cM_sc0_11, ← eh_18] at hP hD
  exact hend h_18 H locs _ _ hf hP hS dX5_passesAll_117

def f_X5_harbour (M : St) : Option (Int32 × St) := (nm (su M 16 5 (0 : Int32)) fun h_1 => (nm (su h_1 16 6 (0 : Int32)) fun h_2 => (lp (fun (nx12 : (Int32 × St) → Option (Int32 × St)) (q12 : Int32 × St) => (if q12.1 = 0 then (nm (su q12.2 16 4 (0 : Int32)) fun h_4 => (if q12.1 = 0 then (some (((-1000 : Int32) - (h_4 16 5)), h_4)) else (bd (f_X5_passesAll h_4 (1 : Int32) (1 : Int32)) fun a_6 => (lp (fun (nx86 : (Int32 × St) → Option (Int32 × St)) (q86 : Int32 × St) => (if (q86.2 16 6) ≤ q86.1 then (some ((q86.2 16 6), q86.2)) else (bd (f_X5_comes q86.2 q86.1) fun a_8 => (if a_8.1 = 0 then (bd (f_X5_passesAll a_8.2 (1 : Int32) (0 : Int32)) fun a_10 => (gi q86.1 48 (some (((-2000 : Int32) - (a_10 10 (q86.1).toNatClampNeg)), a_10)))) else (nm (q86.1 + (1 : Int32)) fun v_12 => (nx86 (v_12, a_8.2))))))) 1000 ((0 : Int32), a_6))))) else (if (q12.2 16 5) < (q12.2 16 4) then (bd (f_X5_statement q12.2) fun a_14 => (if a_14.1 = 0 then (nm (su a_14.2 16 6 ((a_14.2 16 6) + (0 : Int32))) fun h_16 => (nx12 (a_14.1, h_16))) else (nm (su a_14.2 16 6 ((a_14.2 16 6) + (1 : Int32))) fun h_17 => (nx12 (a_14.1, h_17))))) else (if (q12.2 16 6) = 0 then (bd (f_X5_statement q12.2) fun a_28 => (if a_28.1 = 0 then (nm (su a_28.2 16 6 ((a_28.2 16 6) + (0 : Int32))) fun h_30 => (nx12 (a_28.1, h_30))) else (nm (su a_28.2 16 6 ((a_28.2 16 6) + (1 : Int32))) fun h_31 => (nx12 (a_28.1, h_31))))) else (nm (su q12.2 16 4 (0 : Int32)) fun h_19 => (if q12.1 = 0 then (some (((-1000 : Int32) - (h_19 16 5)), h_19)) else (bd (f_X5_passesAll h_19 (1 : Int32) (1 : Int32)) fun a_21 => (lp (fun (nx86 : (Int32 × St) → Option (Int32 × St)) (q86 : Int32 × St) => (if (q86.2 16 6) ≤ q86.1 then (some ((q86.2 16 6), q86.2)) else (bd (f_X5_comes q86.2 q86.1) fun a_23 => (if a_23.1 = 0 then (bd (f_X5_passesAll a_23.2 (1 : Int32) (0 : Int32)) fun a_25 => (gi q86.1 48 (some (((-2000 : Int32) - (a_25 10 (q86.1).toNatClampNeg)), a_25)))) else (nm (q86.1 + (1 : Int32)) fun v_27 => (nx86 (v_27, a_23.2))))))) 1000 ((0 : Int32), a_21))))))))) 1000 ((1 : Int32), h_2))))
def rm_X5_harbour : Room := { frames := 5, cells := 0, slots := 0, locals := 110 }
theorem hd_X5_harbour : yX5_harbour.cls = RX5 ∧ yX5_harbour.cls ≠ "java/lang/invoke/MethodHandle" ∧ yX5_harbour.cls ≠ "java/lang/invoke/VarHandle" ∧ (parseMethodDescriptor yX5_harbour.desc).map (fun d => d.parameters.length) = some 0 := by decide +kernel
set_option maxRecDepth 100000 in
set_option maxHeartbeats 4000000 in
theorem c_X5_harbour (l : Launch) (D : va_G) (cI : ClassId) (A : Nat → Nat) (M : St) (r : Int32 × St) (hf : f_X5_harbour M = some r) : Ct l yX5_harbour wsX5_harbour rm_X5_harbour D cI (cM cI A M) (cM cI A r.2) [.ref (A 0)] (some (.int r.1)) := by
  unfold f_X5_harbour at hf
  refine Ct.ofI (cc := cX5_harbour) (maxL := 3) (by decide +kernel) rfl (Nat.le_of_ble_eq_true rfl) ?_
  intro p e s m args below meth c AA Q H locs ls hx hb hml hown hts hA hK hP hD hS hl hend0
  have hend : ∀ (r1 : Int32 × St) (H : Heap) (locs : List Loc) (pc : Nat) (ls : Array Slot), some r1 = some r → va_P D vwCl (cM cI A r1.2) H → va_S AA s.heap H locs → decode cX5_harbour pc = .ok (.ireturn, 1) → W p l e rm_X5_harbour s m args below meth c H locs 0 0 Q (F0 m pc ls [.int r1.1]) := by
    intro r1 H locs pc ls e1 hP hS hd; cases e1; exact hend0 H locs pc ls hP hS hd
  clear hend0
  have hw5 : ∀ w ∈ wsX50, w ∈ wsX5_harbour := by decide +kernel
  have k40 := hts (.fieldLink RX5 40 "AnchorsForConfessionModel" "letterAt" "[I") (by decide +kernel)
  have k72 := hts (.fieldLink RX5 72 "AnchorsForConfessionModel" "taped" "I") (by decide +kernel)
  have k79 := hts (.fieldLink RX5 79 "AnchorsForConfessionModel" "at" "I") (by decide +kernel)
  have k101 := hts (.fieldLink RX5 101 "AnchorsForConfessionModel" "statements" "I") (by decide +kernel)
  replace hl : lv_has ls 3 [(0, .ref (A 0))] := hl
  refine lv_aload_n hx hb dX5_harbour_0 rfl (lv_at hl 0 rfl) ?_
  refine lv_iconst (v := 0) hx hb dX5_harbour_1 (by decide) ?_
  refine va_put (D := D) (ci := 5) (v := .int (0 : Int32)) (ty := .int) (C := RX5) (T := TX5) (N := 27) hx hb hts hw5 tyX5 tyX5_ok nmX5 hown hK hP hD hS 0 cM_at0 rfl 17 (by decide) k79 (fun _ h9 => h9) rfl (tyX5_ok 17 (by decide)) rfl rfl (Nat.le_of_ble_eq_true rfl) dX5_harbour_2 (fun H locs hP hD hS => ?_)
  obtain ⟨h_1, eh_1, hf⟩ := nm_e hf
  rw [cM_sc0_17, ← eh_1] at hP hD
  refine lv_aload_n hx hb dX5_harbour_5 rfl (lv_at hl 0 rfl) ?_
  refine lv_iconst (v := 0) hx hb dX5_harbour_6 (by decide) ?_
  refine va_put (D := D) (ci := 5) (v := .int (0 : Int32)) (ty := .int) (C := RX5) (T := TX5) (N := 27) hx hb hts hw5 tyX5 tyX5_ok nmX5 hown hK hP hD hS 0 cM_at0 rfl 18 (by decide) k101 (fun _ h9 => h9) rfl (tyX5_ok 18 (by decide)) rfl rfl (Nat.le_of_ble_eq_true rfl) dX5_harbour_7 (fun H locs hP hD hS => ?_)
  obtain ⟨h_2, eh_2, hf⟩ := nm_e hf
  rw [cM_sc0_18, ← eh_2] at hP hD
  refine lv_iconst (v := 1) hx hb dX5_harbour_10 (by decide) ?_
  refine lv_istore_n (lv' := [(1, .int (1 : Int32)), (0, .ref (A 0))]) hx hb dX5_harbour_11 rfl hl (by decide) rfl (fun ls hl => ?_)
  refine lp_ind (P := fun (q12 : Int32 × St) => ∀ (H : Heap) (locs : List Loc) (ls : Array Slot), va_P D vwCl (cM cI A q12.2) H → va_D AA (cM cI A q12.2) → va_S AA s.heap H locs → lv_has ls 3 [(0, .ref (A 0)), (1, .int q12.1)] → W p l e rm_X5_harbour s m args below meth c H locs 0 0 Q (F0 m 12 ls [])) hf ?_ H locs ls hP hD hS (lv_sub hl [1, 0] rfl)
  clear hf hP hD hS hl
  intro nx12 ih12 q12 hf H locs ls hP hD hS hl
  refine lv_iload_n hx hb dX5_harbour_12 rfl (lv_at hl 1 rfl) ?_
  refine lv_if_eq (tgt := 60) hx hb dX5_harbour_13 (by decide) (fun c_3 => ?_) (fun c_3 => ?_)
  · replace hf := if_t c_3 hf
    refine lv_aload_n hx hb dX5_harbour_60 rfl (lv_at hl 0 rfl) ?_
    refine lv_iconst (v := 0) hx hb dX5_harbour_61 (by decide) ?_
    refine va_put (D := D) (ci := 5) (v := .int (0 : Int32)) (ty := .int) (C := RX5) (T := TX5) (N := 27) hx hb hts hw5 tyX5 tyX5_ok nmX5 hown hK hP hD hS 0 cM_at0 rfl 16 (by decide) k72 (fun _ h9 => h9) rfl (tyX5_ok 16 (by decide)) rfl rfl (Nat.le_of_ble_eq_true rfl) dX5_harbour_62 (fun H locs hP hD hS => ?_)
    obtain ⟨h_4, eh_4, hf⟩ := nm_e hf
    rw [cM_sc0_16, ← eh_4] at hP hD
    refine lv_iload_n hx hb dX5_harbour_65 rfl (lv_at hl 1 rfl) ?_
    refine lv_if_ne (tgt := 78) hx hb dX5_harbour_66 (by decide) (fun c_5 => ?_) (fun c_5 => ?_)
    · replace hf := if_f c_5 hf
      refine lv_aload_n hx hb dX5_harbour_78 rfl (lv_at hl 0 rfl) ?_
      refine lv_iconst (v := 1) hx hb dX5_harbour_79 (by decide) ?_
      refine lv_iconst (v := 1) hx hb dX5_harbour_80 (by decide) ?_
      obtain ⟨a_6, ha_6, hf⟩ := bd_e hf
      refine Ct.callV (As := [.int (1 : Int32), .int (1 : Int32)]) (rest := []) (st1 := []) (c_X5_passesAll l D cI A h_4 (1 : Int32) (1 : Int32) a_6 ha_6) hx hb hml hown hts (cwV 2 hts gX5_harbour_X5_passesAll rfl rfl rfl hd_X5_passesAll ⟨Nat.le_of_ble_eq_true rfl, Nat.le_of_ble_eq_true rfl⟩) (va_recv hK hP (ci := 5) (q0 := 0) rfl cM_at0) (Ln.id rfl) hA hK hP hD hS rfl hl.1 rfl rfl (Nat.le_of_ble_eq_true rfl) dX5_harbour_81 (fun H locs hP hD hS => ?_)
      replace hP : va_P D vwCl (cM cI A a_6) H := hP
      replace hD : va_D AA (cM cI A a_6) := hD
      refine lv_iconst (v := 0) hx hb dX5_harbour_84 (by decide) ?_
      refine lv_istore_n (lv' := [(2, .int (0 : Int32)), (0, .ref (A 0)), (1, .int q12.1)]) hx hb dX5_harbour_85 rfl hl (by decide) rfl (fun ls hl => ?_)
      refine lp_ind (P := fun (q86 : Int32 × St) => ∀ (H : Heap) (locs : List Loc) (ls : Array Slot), va_P D vwCl (cM cI A q86.2) H → va_D AA (cM cI A q86.2) → va_S AA s.heap H locs → lv_has ls 3 [(0, .ref (A 0)), (2, .int q86.1)] → W p l e rm_X5_harbour s m args below meth c H locs 0 0 Q (F0 m 86 ls [])) hf ?_ H locs ls hP hD hS (lv_sub hl [1, 0] rfl)
      clear hf hP hD hS hl
      intro nx86 ih86 q86 hf H locs ls hP hD hS hl
      refine lv_iload_n hx hb dX5_harbour_86 rfl (lv_at hl 1 rfl) ?_
      refine lv_aload_n hx hb dX5_harbour_87 rfl (lv_at hl 0 rfl) ?_
      refine va_get (D := D) (ci := 5) (v := .int (q86.2 16 6)) (C := RX5) (T := TX5) (N := 27) hx hb hts hw5 hown hK hP 0 cM_at0 rfl 18 (by decide) k101 (fun _ h9 => h9) rfl dX5_harbour_88 ?_
      refine lv_icmp_ge (tgt := 128) hx hb dX5_harbour_91 (by decide) (fun c_7 => ?_) (fun c_7 => ?_)
      · replace hf := if_t c_7 hf
        refine lv_aload_n hx hb dX5_harbour_128 rfl (lv_at hl 0 rfl) ?_
        refine va_get (D := D) (ci := 5) (v := .int (q86.2 16 6)) (C := RX5) (T := TX5) (N := 27) hx hb hts hw5 hown hK hP 0 cM_at0 rfl 18 (by decide) k101 (fun _ h9 => h9) rfl dX5_harbour_129 ?_
        exact hend ((q86.2 16 6), q86.2) H locs _ _ hf hP hS dX5_harbour_132
      · replace hf := if_f c_7 hf
        refine lv_aload_n hx hb dX5_harbour_94 rfl (lv_at hl 0 rfl) ?_
        refine lv_iload_n hx hb dX5_harbour_95 rfl (lv_at hl 1 rfl) ?_
        obtain ⟨a_8, ha_8, hf⟩ := bd_e hf
        refine Ct.callV (As := [.int q86.1]) (rest := []) (st1 := [.int a_8.1]) (c_X5_comes l D cI A q86.2 q86.1 a_8 ha_8) hx hb hml hown hts (cwV 1 hts gX5_harbour_X5_comes rfl rfl rfl hd_X5_comes ⟨Nat.le_of_ble_eq_true rfl, Nat.le_of_ble_eq_true rfl⟩) (va_recv hK hP (ci := 5) (q0 := 0) rfl cM_at0) (Ln.id rfl) hA hK hP hD hS rfl hl.1 rfl rfl (Nat.le_of_ble_eq_true rfl) dX5_harbour_96 (fun H locs hP hD hS => ?_)
        replace hP : va_P D vwCl (cM cI A a_8.2) H := hP
        replace hD : va_D AA (cM cI A a_8.2) := hD
        refine lv_if_eq (tgt := 105) hx hb dX5_harbour_99 (by decide) (fun c_9 => ?_) (fun c_9 => ?_)
        · replace hf := if_t c_9 hf
          refine lv_aload_n hx hb dX5_harbour_105 rfl (lv_at hl 0 rfl) ?_
          refine lv_iconst (v := 1) hx hb dX5_harbour_106 (by decide) ?_
          refine lv_iconst (v := 0) hx hb dX5_harbour_107 (by decide) ?_
          obtain ⟨a_10, ha_10, hf⟩ := bd_e hf
          refine Ct.callV (As := [.int (1 : Int32), .int (0 : Int32)]) (rest := []) (st1 := []) (c_X5_passesAll l D cI A a_8.2 (1 : Int32) (0 : Int32) a_10 ha_10) hx hb hml hown hts (cwV 2 hts gX5_harbour_X5_passesAll rfl rfl rfl hd_X5_passesAll ⟨Nat.le_of_ble_eq_true rfl, Nat.le_of_ble_eq_true rfl⟩) (va_recv hK hP (ci := 5) (q0 := 0) rfl cM_at0) (Ln.id rfl) hA hK hP hD hS rfl hl.1 rfl rfl (Nat.le_of_ble_eq_true rfl) dX5_harbour_108 (fun H locs hP hD hS => ?_)
          replace hP : va_P D vwCl (cM cI A a_10) H := hP
          replace hD : va_D AA (cM cI A a_10) := hD
          refine lv_sipush (v := -2000) hx hb dX5_harbour_111 (by decide +kernel) ?_
          refine lv_aload_n hx hb dX5_harbour_114 rfl (lv_at hl 0 rfl) ?_
          refine va_get (D := D) (ci := 5) (v := .ref (A 11)) (C := RX5) (T := TX5) (N := 27) hx hb hts hw5 hown hK hP 0 cM_at0 rfl 14 (by decide) k40 (fun _ h9 => h9) rfl dX5_harbour_115 ?_
          refine lv_iload_n hx hb dX5_harbour_118 rfl (lv_at hl 1 rfl) ?_
          obtain ⟨c_11, hf⟩ := gi_e hf
          refine va_iald hx hb hK hP 11 0 cM_at11 rfl c_11 dX5_harbour_119 ?_
          refine lv_isub hx hb dX5_harbour_120 ?_
          exact hend (((-2000 : Int32) - (a_10 10 (q86.1).toNatClampNeg)), a_10) H locs _ _ hf hP hS dX5_harbour_121
        · replace hf := if_f c_9 hf
          refine lv_goto (tgt := 122) hx hb dX5_harbour_102 (by decide) ?_
          obtain ⟨v_12, ev_12, hf⟩ := nm_e hf
          refine lv_iinc (v := v_12) (lv' := [(2, .int v_12), (0, .ref (A 0))]) hx hb dX5_harbour_122 hl (k := 1) rfl (by rw [ev_12]; rfl) (by decide) rfl (fun ls hl => ?_)
          refine lv_goto (tgt := 86) hx hb dX5_harbour_125 (by decide) ?_
          exact ih86 (v_12, a_8.2) hf H locs ls hP hD hS (lv_sub hl [1, 0] rfl)
    · replace hf := if_t c_5 hf
      refine lv_sipush (v := -1000) hx hb dX5_harbour_69 (by decide +kernel) ?_
      refine lv_aload_n hx hb dX5_harbour_72 rfl (lv_at hl 0 rfl) ?_
      refine va_get (D := D) (ci := 5) (v := .int (h_4 16 5)) (C := RX5) (T := TX5) (N := 27) hx hb hts hw5 hown hK hP 0 cM_at0 rfl 17 (by decide) k79 (fun _ h9 => h9) rfl dX5_harbour_73 ?_
      refine lv_isub hx hb dX5_harbour_76 ?_
      exact hend (((-1000 : Int32) - (h_4 16 5)), h_4) H locs _ _ hf hP hS dX5_harbour_77
  · replace hf := if_f c_3 hf
    refine lv_aload_n hx hb dX5_harbour_16 rfl (lv_at hl 0 rfl) ?_
    refine va_get (D := D) (ci := 5) (v := .int (q12.2 16 5)) (C := RX5) (T := TX5) (N := 27) hx hb hts hw5 hown hK hP 0 cM_at0 rfl 17 (by decide) k79 (fun _ h9 => h9) rfl dX5_harbour_17 ?_
    refine lv_aload_n hx hb dX5_harbour_20 rfl (lv_at hl 0 rfl) ?_
    refine va_get (D := D) (ci := 5) (v := .int (q12.2 16 4)) (C := RX5) (T := TX5) (N := 27) hx hb hts hw5 hown hK hP 0 cM_at0 rfl 16 (by decide) k72 (fun _ h9 => h9) rfl dX5_harbour_21 ?_
    refine lv_icmp_lt (tgt := 34) hx hb dX5_harbour_24 (by decide) (fun c_13 => ?_) (fun c_13 => ?_)
    · replace hf := if_t c_13 hf
      refine lv_aload_n hx hb dX5_harbour_34 rfl (lv_at hl 0 rfl) ?_
      obtain ⟨a_14, ha_14, hf⟩ := bd_e hf
      refine Ct.callV (As := []) (rest := []) (st1 := [.int a_14.1]) (c_X5_statement l D cI A q12.2 a_14 ha_14) hx hb hml hown hts (cwV 0 hts gX5_harbour_X5_statement rfl rfl rfl hd_X5_statement ⟨Nat.le_of_ble_eq_true rfl, Nat.le_of_ble_eq_true rfl⟩) (va_recv hK hP (ci := 5) (q0 := 0) rfl cM_at0) (Ln.id rfl) hA hK hP hD hS rfl hl.1 rfl rfl (Nat.le_of_ble_eq_true rfl) dX5_harbour_35 (fun H locs hP hD hS => ?_)
      replace hP : va_P D vwCl (cM cI A a_14.2) H := hP
      replace hD : va_D AA (cM cI A a_14.2) := hD
      refine lv_istore_n (lv' := [(1, .int a_14.1), (0, .ref (A 0))]) hx hb dX5_harbour_38 rfl hl (by decide) rfl (fun ls hl => ?_)
      refine lv_aload_n hx hb dX5_harbour_39 rfl (lv_at hl 1 rfl) ?_
      refine lv_dup hx hb dX5_harbour_40 rfl ?_
      refine va_get (D := D) (ci := 5) (v := .int (a_14.2 16 6)) (C := RX5) (T := TX5) (N := 27) hx hb hts hw5 hown hK hP 0 cM_at0 rfl 18 (by decide) k101 (fun _ h9 => h9) rfl dX5_harbour_41 ?_
      refine lv_iload_n hx hb dX5_harbour_44 rfl (lv_at hl 0 rfl) ?_
      refine lv_if_eq (tgt := 52) hx hb dX5_harbour_45 (by decide) (fun c_15 => ?_) (fun c_15 => ?_)
      · replace hf := if_t c_15 hf
        refine lv_iconst (v := 0) hx hb dX5_harbour_52 (by decide) ?_
        refine lv_iadd hx hb dX5_harbour_53 ?_
        refine va_put (D := D) (ci := 5) (v := .int ((a_14.2 16 6) + (0 : Int32))) (ty := .int) (C := RX5) (T := TX5) (N := 27) hx hb hts hw5 tyX5 tyX5_ok nmX5 hown hK hP hD hS 0 cM_at0 rfl 18 (by decide) k101 (fun _ h9 => h9) rfl (tyX5_ok 18 (by decide)) rfl rfl (Nat.le_of_ble_eq_true rfl) dX5_harbour_54 (fun H locs hP hD hS => ?_)
        obtain ⟨h_16, eh_16, hf⟩ := nm_e hf
        rw [cM_sc0_18, ← eh_16] at hP hD
        refine lv_goto (tgt := 12) hx hb dX5_harbour_57 (by decide) ?_
        exact ih12 (a_14.1, h_16) hf H locs ls hP hD hS (lv_sub hl [1, 0] rfl)
      · replace hf := if_f c_15 hf
        refine lv_iconst (v := 1) hx hb dX5_harbour_48 (by decide) ?_
        refine lv_goto (tgt := 53) hx hb dX5_harbour_49 (by decide) ?_
        refine lv_iadd hx hb dX5_harbour_53 ?_
        refine va_put (D := D) (ci := 5) (v := .int ((a_14.2 16 6) + (1 : Int32))) (ty := .int) (C := RX5) (T := TX5) (N := 27) hx hb hts hw5 tyX5 tyX5_ok nmX5 hown hK hP hD hS 0 cM_at0 rfl 18 (by decide) k101 (fun _ h9 => h9) rfl (tyX5_ok 18 (by decide)) rfl rfl (Nat.le_of_ble_eq_true rfl) dX5_harbour_54 (fun H locs hP hD hS => ?_)
        obtain ⟨h_17, eh_17, hf⟩ := nm_e hf
        rw [cM_sc0_18, ← eh_17] at hP hD
        refine lv_goto (tgt := 12) hx hb dX5_harbour_57 (by decide) ?_
        exact ih12 (a_14.1, h_17) hf H locs ls hP hD hS (lv_sub hl [1, 0] rfl)
    · replace hf := if_f c_13 hf
      refine lv_aload_n hx hb dX5_harbour_27 rfl (lv_at hl 0 rfl) ?_
      refine va_get (D := D) (ci := 5) (v := .int (q12.2 16 6)) (C := RX5) (T := TX5) (N := 27) hx hb hts hw5 hown hK hP 0 cM_at0 rfl 18 (by decide) k101 (fun _ h9 => h9) rfl dX5_harbour_28 ?_
      refine lv_if_ne (tgt := 60) hx hb dX5_harbour_31 (by decide) (fun c_18 => ?_) (fun c_18 => ?_)
      · replace hf := if_f c_18 hf
        refine lv_aload_n hx hb dX5_harbour_60 rfl (lv_at hl 0 rfl) ?_
        refine lv_iconst (v := 0) hx hb dX5_harbour_61 (by decide) ?_
        refine va_put (D := D) (ci := 5) (v := .int (0 : Int32)) (ty := .int) (C := RX5) (T := TX5) (N := 27) hx hb hts hw5 tyX5 tyX5_ok nmX5 hown hK hP hD hS 0 cM_at0 rfl 16 (by decide) k72 (fun _ h9 => h9) rfl (tyX5_ok 16 (by decide)) rfl rfl (Nat.le_of_ble_eq_true rfl) dX5_harbour_62 (fun H locs hP hD hS => ?_)
        obtain ⟨h_19, eh_19, hf⟩ := nm_e hf
        rw [cM_sc0_16, ← eh_19] at hP hD
        refine lv_iload_n hx hb dX5_harbour_65 rfl (lv_at hl 1 rfl) ?_
        refine lv_if_ne (tgt := 78) hx hb dX5_harbour_66 (by decide) (fun c_20 => ?_) (fun c_20 => ?_)
        · replace hf := if_f c_20 hf
          refine lv_aload_n hx hb dX5_harbour_78 rfl (lv_at hl 0 rfl) ?_
          refine lv_iconst (v := 1) hx hb dX5_harbour_79 (by decide) ?_
          refine lv_iconst (v := 1) hx hb dX5_harbour_80 (by decide) ?_
          obtain ⟨a_21, ha_21, hf⟩ := bd_e hf
          refine Ct.callV (As := [.int (1 : Int32), .int (1 : Int32)]) (rest := []) (st1 := []) (c_X5_passesAll l D cI A h_19 (1 : Int32) (1 : Int32) a_21 ha_21) hx hb hml hown hts (cwV 2 hts gX5_harbour_X5_passesAll rfl rfl rfl hd_X5_passesAll ⟨Nat.le_of_ble_eq_true rfl, Nat.le_of_ble_eq_true rfl⟩) (va_recv hK hP (ci := 5) (q0 := 0) rfl cM_at0) (Ln.id rfl) hA hK hP hD hS rfl hl.1 rfl rfl (Nat.le_of_ble_eq_true rfl) dX5_harbour_81 (fun H locs hP hD hS => ?_)
          replace hP : va_P D vwCl (cM cI A a_21) H := hP
          replace hD : va_D AA (cM cI A a_21) := hD
          refine lv_iconst (v := 0) hx hb dX5_harbour_84 (by decide) ?_
          refine lv_istore_n (lv' := [(2, .int (0 : Int32)), (0, .ref (A 0)), (1, .int q12.1)]) hx hb dX5_harbour_85 rfl hl (by decide) rfl (fun ls hl => ?_)
          refine lp_ind (P := fun (q86 : Int32 × St) => ∀ (H : Heap) (locs : List Loc) (ls : Array Slot), va_P D vwCl (cM cI A q86.2) H → va_D AA (cM cI A q86.2) → va_S AA s.heap H locs → lv_has ls 3 [(0, .ref (A 0)), (2, .int q86.1)] → W p l e rm_X5_harbour s m args below meth c H locs 0 0 Q (F0 m 86 ls [])) hf ?_ H locs ls hP hD hS (lv_sub hl [1, 0] rfl)
          clear hf hP hD hS hl
          intro nx86 ih86 q86 hf H locs ls hP hD hS hl
          refine lv_iload_n hx hb dX5_harbour_86 rfl (lv_at hl 1 rfl) ?_
          refine lv_aload_n hx hb dX5_harbour_87 rfl (lv_at hl 0 rfl) ?_
          refine va_get (D := D) (ci := 5) (v := .int (q86.2 16 6)) (C := RX5) (T := TX5) (N := 27) hx hb hts hw5 hown hK hP 0 cM_at0 rfl 18 (by decide) k101 (fun _ h9 => h9) rfl dX5_harbour_88 ?_
          refine lv_icmp_ge (tgt := 128) hx hb dX5_harbour_91 (by decide) (fun c_22 => ?_) (fun c_22 => ?_)
          · replace hf := if_t c_22 hf
            refine lv_aload_n hx hb dX5_harbour_128 rfl (lv_at hl 0 rfl) ?_
            refine va_get (D := D) (ci := 5) (v := .int (q86.2 16 6)) (C := RX5) (T := TX5) (N := 27) hx hb hts hw5 hown hK hP 0 cM_at0 rfl 18 (by decide) k101 (fun _ h9 => h9) rfl dX5_harbour_129 ?_
            exact hend ((q86.2 16 6), q86.2) H locs _ _ hf hP hS dX5_harbour_132
          · replace hf := if_f c_22 hf
            refine lv_aload_n hx hb dX5_harbour_94 rfl (lv_at hl 0 rfl) ?_
            refine lv_iload_n hx hb dX5_harbour_95 rfl (lv_at hl 1 rfl) ?_
            obtain ⟨a_23, ha_23, hf⟩ := bd_e hf
            refine Ct.callV (As := [.int q86.1]) (rest := []) (st1 := [.int a_23.1]) (c_X5_comes l D cI A q86.2 q86.1 a_23 ha_23) hx hb hml hown hts (cwV 1 hts gX5_harbour_X5_comes rfl rfl rfl hd_X5_comes ⟨Nat.le_of_ble_eq_true rfl, Nat.le_of_ble_eq_true rfl⟩) (va_recv hK hP (ci := 5) (q0 := 0) rfl cM_at0) (Ln.id rfl) hA hK hP hD hS rfl hl.1 rfl rfl (Nat.le_of_ble_eq_true rfl) dX5_harbour_96 (fun H locs hP hD hS => ?_)
            replace hP : va_P D vwCl (cM cI A a_23.2) H := hP
            replace hD : va_D AA (cM cI A a_23.2) := hD
            refine lv_if_eq (tgt := 105) hx hb dX5_harbour_99 (by decide) (fun c_24 => ?_) (fun c_24 => ?_)
            · replace hf := if_t c_24 hf
              refine lv_aload_n hx hb dX5_harbour_105 rfl (lv_at hl 0 rfl) ?_
              refine lv_iconst (v := 1) hx hb dX5_harbour_106 (by decide) ?_
              refine lv_iconst (v := 0) hx hb dX5_harbour_107 (by decide) ?_
              obtain ⟨a_25, ha_25, hf⟩ := bd_e hf
              refine Ct.callV (As := [.int (1 : Int32), .int (0 : Int32)]) (rest := []) (st1 := []) (c_X5_passesAll l D cI A a_23.2 (1 : Int32) (0 : Int32) a_25 ha_25) hx hb hml hown hts (cwV 2 hts gX5_harbour_X5_passesAll rfl rfl rfl hd_X5_passesAll ⟨Nat.le_of_ble_eq_true rfl, Nat.le_of_ble_eq_true rfl⟩) (va_recv hK hP (ci := 5) (q0 := 0) rfl cM_at0) (Ln.id rfl) hA hK hP hD hS rfl hl.1 rfl rfl (Nat.le_of_ble_eq_true rfl) dX5_harbour_108 (fun H locs hP hD hS => ?_)
              replace hP : va_P D vwCl (cM cI A a_25) H := hP
              replace hD : va_D AA (cM cI A a_25) := hD
              refine lv_sipush (v := -2000) hx hb dX5_harbour_111 (by decide +kernel) ?_
              refine lv_aload_n hx hb dX5_harbour_114 rfl (lv_at hl 0 rfl) ?_
              refine va_get (D := D) (ci := 5) (v := .ref (A 11)) (C := RX5) (T := TX5) (N := 27) hx hb hts hw5 hown hK hP 0 cM_at0 rfl 14 (by decide) k40 (fun _ h9 => h9) rfl dX5_harbour_115 ?_
              refine lv_iload_n hx hb dX5_harbour_118 rfl (lv_at hl 1 rfl) ?_
              obtain ⟨c_26, hf⟩ := gi_e hf
              refine va_iald hx hb hK hP 11 0 cM_at11 rfl c_26 dX5_harbour_119 ?_
              refine lv_isub hx hb dX5_harbour_120 ?_
              exact hend (((-2000 : Int32) - (a_25 10 (q86.1).toNatClampNeg)), a_25) H locs _ _ hf hP hS dX5_harbour_121
            · replace hf := if_f c_24 hf
              refine lv_goto (tgt := 122) hx hb dX5_harbour_102 (by decide) ?_
              obtain ⟨v_27, ev_27, hf⟩ := nm_e hf
              refine lv_iinc (v := v_27) (lv' := [(2, .int v_27), (0, .ref (A 0))]) hx hb dX5_harbour_122 hl (k := 1) rfl (by rw [ev_27]; rfl) (by decide) rfl (fun ls hl => ?_)
              refine lv_goto (tgt := 86) hx hb dX5_harbour_125 (by decide) ?_
              exact ih86 (v_27, a_23.2) hf H locs ls hP hD hS (lv_sub hl [1, 0] rfl)
        · replace hf := if_t c_20 hf
          refine lv_sipush (v := -1000) hx hb dX5_harbour_69 (by decide +kernel) ?_
          refine lv_aload_n hx hb dX5_harbour_72 rfl (lv_at hl 0 rfl) ?_
          refine va_get (D := D) (ci := 5) (v := .int (h_19 16 5)) (C := RX5) (T := TX5) (N := 27) hx hb hts hw5 hown hK hP 0 cM_at0 rfl 17 (by decide) k79 (fun _ h9 => h9) rfl dX5_harbour_73 ?_
          refine lv_isub hx hb dX5_harbour_76 ?_
          exact hend (((-1000 : Int32) - (h_19 16 5)), h_19) H locs _ _ hf hP hS dX5_harbour_77
      · replace hf := if_t c_18 hf
        refine lv_aload_n hx hb dX5_harbour_34 rfl (lv_at hl 0 rfl) ?_
        obtain ⟨a_28, ha_28, hf⟩ := bd_e hf
        refine Ct.callV (As := []) (rest := []) (st1 := [.int a_28.1]) (c_X5_statement l D cI A q12.2 a_28 ha_28) hx hb hml hown hts (cwV 0 hts gX5_harbour_X5_statement rfl rfl rfl hd_X5_statement ⟨Nat.le_of_ble_eq_true rfl, Nat.le_of_ble_eq_true rfl⟩) (va_recv hK hP (ci := 5) (q0 := 0) rfl cM_at0) (Ln.id rfl) hA hK hP hD hS rfl hl.1 rfl rfl (Nat.le_of_ble_eq_true rfl) dX5_harbour_35 (fun H locs hP hD hS => ?_)
        replace hP : va_P D vwCl (cM cI A a_28.2) H := hP
        replace hD : va_D AA (cM cI A a_28.2) := hD
        refine lv_istore_n (lv' := [(1, .int a_28.1), (0, .ref (A 0))]) hx hb dX5_harbour_38 rfl hl (by decide) rfl (fun ls hl => ?_)
        refine lv_aload_n hx hb dX5_harbour_39 rfl (lv_at hl 1 rfl) ?_
        refine lv_dup hx hb dX5_harbour_40 rfl ?_
        refine va_get (D := D) (ci := 5) (v := .int (a_28.2 16 6)) (C := RX5) (T := TX5) (N := 27) hx hb hts hw5 hown hK hP 0 cM_at0 rfl 18 (by decide) k101 (fun _ h9 => h9) rfl dX5_harbour_41 ?_
        refine lv_iload_n hx hb dX5_harbour_44 rfl (lv_at hl 0 rfl) ?_
        refine lv_if_eq (tgt := 52) hx hb dX5_harbour_45 (by decide) (fun c_29 => ?_) (fun c_29 => ?_)
        · replace hf := if_t c_29 hf
          refine lv_iconst (v := 0) hx hb dX5_harbour_52 (by decide) ?_
          refine lv_iadd hx hb dX5_harbour_53 ?_
          refine va_put (D := D) (ci := 5) (v := .int ((a_28.2 16 6) + (0 : Int32))) (ty := .int) (C := RX5) (T := TX5) (N := 27) hx hb hts hw5 tyX5 tyX5_ok nmX5 hown hK hP hD hS 0 cM_at0 rfl 18 (by decide) k101 (fun _ h9 => h9) rfl (tyX5_ok 18 (by decide)) rfl rfl (Nat.le_of_ble_eq_true rfl) dX5_harbour_54 (fun H locs hP hD hS => ?_)
          obtain ⟨h_30, eh_30, hf⟩ := nm_e hf
          rw [cM_sc0_18, ← eh_30] at hP hD
          refine lv_goto (tgt := 12) hx hb dX5_harbour_57 (by decide) ?_
          exact ih12 (a_28.1, h_30) hf H locs ls hP hD hS (lv_sub hl [1, 0] rfl)
        · replace hf := if_f c_29 hf
          refine lv_iconst (v := 1) hx hb dX5_harbour_48 (by decide) ?_
          refine lv_goto (tgt := 53) hx hb dX5_harbour_49 (by decide) ?_
          refine lv_iadd hx hb dX5_harbour_53 ?_
          refine va_put (D := D) (ci := 5) (v := .int ((a_28.2 16 6) + (1 : Int32))) (ty := .int) (C := RX5) (T := TX5) (N := 27) hx hb hts hw5 tyX5 tyX5_ok nmX5 hown hK hP hD hS 0 cM_at0 rfl 18 (by decide) k101 (fun _ h9 => h9) rfl (tyX5_ok 18 (by decide)) rfl rfl (Nat.le_of_ble_eq_true rfl) dX5_harbour_54 (fun H locs hP hD hS => ?_)
          obtain ⟨h_31, eh_31, hf⟩ := nm_e hf
          rw [cM_sc0_18, ← eh_31] at hP hD
          refine lv_goto (tgt := 12) hx hb dX5_harbour_57 (by decide) ?_
          exact ih12 (a_28.1, h_31) hf H locs ls hP hD hS (lv_sub hl [1, 0] rfl)

def f_X5_thinks (M : St) : Option (St) := (bd (f_X5_passesAll M (2 : Int32) (1 : Int32)) fun a_1 => (some a_1))
def rm_X5_thinks : Room := { frames := 2, cells := 0, slots := 0, locals := 44 }
theorem hd_X5_thinks : yX5_thinks.cls = RX5 ∧ yX5_thinks.cls ≠ "java/lang/invoke/MethodHandle" ∧ yX5_thinks.cls ≠ "java/lang/invoke/VarHandle" ∧ (parseMethodDescriptor yX5_thinks.desc).map (fun d => d.parameters.length) = some 0 := by decide +kernel
set_option maxRecDepth 100000 in
set_option maxHeartbeats 4000000 in
theorem c_X5_thinks (l : Launch) (D : va_G) (cI : ClassId) (A : Nat → Nat) (M : St) (r : St) (hf : f_X5_thinks M = some r) : Ct l yX5_thinks wsX5_thinks rm_X5_thinks D cI (cM cI A M) (cM cI A r) [.ref (A 0)] none := by
  unfold f_X5_thinks at hf
  refine Ct.ofV (cc := cX5_thinks) (maxL := 1) (by decide +kernel) rfl (Nat.le_of_ble_eq_true rfl) ?_
  intro p e s m args below meth c AA Q H locs ls hx hb hml hown hts hA hK hP hD hS hl hend0
  have hend : ∀ (r1 : St) (H : Heap) (locs : List Loc) (pc : Nat) (ls : Array Slot), some r1 = some r → va_P D vwCl (cM cI A r1) H → va_S AA s.heap H locs → decode cX5_thinks pc = .ok (.return_, 1) → W p l e rm_X5_thinks s m args below meth c H locs 0 0 Q (F0 m pc ls []) := by
    intro r1 H locs pc ls e1 hP hS hd; cases e1; exact hend0 H locs pc ls hP hS hd
  clear hend0
  replace hl : lv_has ls 1 [(0, .ref (A 0))] := hl
  refine lv_aload_n hx hb dX5_thinks_0 rfl (lv_at hl 0 rfl) ?_
  refine lv_iconst (v := 2) hx hb dX5_thinks_1 (by decide) ?_
  refine lv_iconst (v := 1) hx hb dX5_thinks_2 (by decide) ?_
  obtain ⟨a_1, ha_1, hf⟩ := bd_e hf
  refine Ct.callV (As := [.int (2 : Int32), .int (1 : Int32)]) (rest := []) (st1 := []) (c_X5_passesAll l D cI A M (2 : Int32) (1 : Int32) a_1 ha_1) hx hb hml hown hts (cwV 2 hts gX5_thinks_X5_passesAll rfl rfl rfl hd_X5_passesAll ⟨Nat.le_of_ble_eq_true rfl, Nat.le_of_ble_eq_true rfl⟩) (va_recv hK hP (ci := 5) (q0 := 0) rfl cM_at0) (Ln.id rfl) hA hK hP hD hS rfl hl.1 rfl rfl (Nat.le_of_ble_eq_true rfl) dX5_thinks_3 (fun H locs hP hD hS => ?_)
  replace hP : va_P D vwCl (cM cI A a_1) H := hP
  replace hD : va_D AA (cM cI A a_1) := hD
  exact hend a_1 H locs _ _ hf hP hS dX5_thinks_6

def f_X5_forgets (M : St) : Option (St) := (bd (f_X5_passesAll M (2 : Int32) (0 : Int32)) fun a_1 => (some a_1))
def rm_X5_forgets : Room := { frames := 2, cells := 0, slots := 0, locals := 44 }
theorem hd_X5_forgets : yX5_forgets.cls = RX5 ∧ yX5_forgets.cls ≠ "java/lang/invoke/MethodHandle" ∧ yX5_forgets.cls ≠ "java/lang/invoke/VarHandle" ∧ (parseMethodDescriptor yX5_forgets.desc).map (fun d => d.parameters.length) = some 0 := by decide +kernel
set_option maxRecDepth 100000 in
set_option maxHeartbeats 4000000 in
theorem c_X5_forgets (l : Launch) (D : va_G) (cI : ClassId) (A : Nat → Nat) (M : St) (r : St) (hf : f_X5_forgets M = some r) : Ct l yX5_forgets wsX5_forgets rm_X5_forgets D cI (cM cI A M) (cM cI A r) [.ref (A 0)] none := by
  unfold f_X5_forgets at hf
  refine Ct.ofV (cc := cX5_forgets) (maxL := 1) (by decide +kernel) rfl (Nat.le_of_ble_eq_true rfl) ?_
  intro p e s m args below meth c AA Q H locs ls hx hb hml hown hts hA hK hP hD hS hl hend0
  have hend : ∀ (r1 : St) (H : Heap) (locs : List Loc) (pc : Nat) (ls : Array Slot), some r1 = some r → va_P D vwCl (cM cI A r1) H → va_S AA s.heap H locs → decode cX5_forgets pc = .ok (.return_, 1) → W p l e rm_X5_forgets s m args below meth c H locs 0 0 Q (F0 m pc ls []) := by
    intro r1 H locs pc ls e1 hP hS hd; cases e1; exact hend0 H locs pc ls hP hS hd
  clear hend0
  replace hl : lv_has ls 1 [(0, .ref (A 0))] := hl
  refine lv_aload_n hx hb dX5_forgets_0 rfl (lv_at hl 0 rfl) ?_
  refine lv_iconst (v := 2) hx hb dX5_forgets_1 (by decide) ?_
  refine lv_iconst (v := 0) hx hb dX5_forgets_2 (by decide) ?_
  obtain ⟨a_1, ha_1, hf⟩ := bd_e hf
  refine Ct.callV (As := [.int (2 : Int32), .int (0 : Int32)]) (rest := []) (st1 := []) (c_X5_passesAll l D cI A M (2 : Int32) (0 : Int32) a_1 ha_1) hx hb hml hown hts (cwV 2 hts gX5_forgets_X5_passesAll rfl rfl rfl hd_X5_passesAll ⟨Nat.le_of_ble_eq_true rfl, Nat.le_of_ble_eq_true rfl⟩) (va_recv hK hP (ci := 5) (q0 := 0) rfl cM_at0) (Ln.id rfl) hA hK hP hD hS rfl hl.1 rfl rfl (Nat.le_of_ble_eq_true rfl) dX5_forgets_3 (fun H locs hP hD hS => ?_)
  replace hP : va_P D vwCl (cM cI A a_1) H := hP
  replace hD : va_D AA (cM cI A a_1) := hD
  exact hend a_1 H locs _ _ hf hP hS dX5_forgets_6

def f_X5_image (M : St) : Option (Int32 × St) := (nm (su M 16 7 (1 : Int32)) fun h_1 => (bd (f_X5_passesAll h_1 (0 : Int32) (1 : Int32)) fun a_2 => (some ((a_2 16 3), a_2))))
def rm_X5_image : Room := { frames := 2, cells := 0, slots := 0, locals := 44 }
theorem hd_X5_image : yX5_image.cls = RX5 ∧ yX5_image.cls ≠ "java/lang/invoke/MethodHandle" ∧ yX5_image.cls ≠ "java/lang/invoke/VarHandle" ∧ (parseMethodDescriptor yX5_image.desc).map (fun d => d.parameters.length) = some 0 := by decide +kernel
set_option maxRecDepth 100000 in
set_option maxHeartbeats 4000000 in
theorem c_X5_image (l : Launch) (D : va_G) (cI : ClassId) (A : Nat → Nat) (M : St) (r : Int32 × St) (hf : f_X5_image M = some r) : Ct l yX5_image wsX5_image rm_X5_image D cI (cM cI A M) (cM cI A r.2) [.ref (A 0)] (some (.int r.1)) := by
  unfold f_X5_image at hf
  refine Ct.ofI (cc := cX5_image) (maxL := 1) (by decide +kernel) rfl (Nat.le_of_ble_eq_true rfl) ?_
  intro p e s m args below meth c AA Q H locs ls hx hb hml hown hts hA hK hP hD hS hl hend0
  have hend : ∀ (r1 : Int32 × St) (H : Heap) (locs : List Loc) (pc : Nat) (ls : Array Slot), some r1 = some r → va_P D vwCl (cM cI A r1.2) H → va_S AA s.heap H locs → decode cX5_image pc = .ok (.ireturn, 1) → W p l e rm_X5_image s m args below meth c H locs 0 0 Q (F0 m pc ls [.int r1.1]) := by
    intro r1 H locs pc ls e1 hP hS hd; cases e1; exact hend0 H locs pc ls hP hS hd
  clear hend0
  have hw5 : ∀ w ∈ wsX50, w ∈ wsX5_image := by decide +kernel
  have k110 := hts (.fieldLink RX5 110 "AnchorsForConfessionModel" "tide" "I") (by decide +kernel)
  have k163 := hts (.fieldLink RX5 163 "AnchorsForConfessionModel" "hasImage" "Z") (by decide +kernel)
  replace hl : lv_has ls 1 [(0, .ref (A 0))] := hl
  refine lv_aload_n hx hb dX5_image_0 rfl (lv_at hl 0 rfl) ?_
  refine lv_iconst (v := 1) hx hb dX5_image_1 (by decide) ?_
  refine va_put (D := D) (ci := 5) (v := .int (1 : Int32)) (ty := .boolean) (C := RX5) (T := TX5) (N := 27) hx hb hts hw5 tyX5 tyX5_ok nmX5 hown hK hP hD hS 0 cM_at0 rfl 20 (by decide) k163 (fun _ h9 => h9) rfl (tyX5_ok 20 (by decide)) rfl rfl (Nat.le_of_ble_eq_true rfl) dX5_image_2 (fun H locs hP hD hS => ?_)
  obtain ⟨h_1, eh_1, hf⟩ := nm_e hf
  rw [cM_sc0_20, ← eh_1] at hP hD
  refine lv_aload_n hx hb dX5_image_5 rfl (lv_at hl 0 rfl) ?_
  refine lv_iconst (v := 0) hx hb dX5_image_6 (by decide) ?_
  refine lv_iconst (v := 1) hx hb dX5_image_7 (by decide) ?_
  obtain ⟨a_2, ha_2, hf⟩ := bd_e hf
  refine Ct.callV (As := [.int (0 : Int32), .int (1 : Int32)]) (rest := []) (st1 := []) (c_X5_passesAll l D cI A h_1 (0 : Int32) (1 : Int32) a_2 ha_2) hx hb hml hown hts (cwV 2 hts gX5_image_X5_passesAll rfl rfl rfl hd_X5_passesAll ⟨Nat.le_of_ble_eq_true rfl, Nat.le_of_ble_eq_true rfl⟩) (va_recv hK hP (ci := 5) (q0 := 0) rfl cM_at0) (Ln.id rfl) hA hK hP hD hS rfl hl.1 rfl rfl (Nat.le_of_ble_eq_true rfl) dX5_image_8 (fun H locs hP hD hS => ?_)
  replace hP : va_P D vwCl (cM cI A a_2) H := hP
  replace hD : va_D AA (cM cI A a_2) := hD
  refine lv_aload_n hx hb dX5_image_11 rfl (lv_at hl 0 rfl) ?_
  refine va_get (D := D) (ci := 5) (v := .int (a_2 16 3)) (C := RX5) (T := TX5) (N := 27) hx hb hts hw5 hown hK hP 0 cM_at0 rfl 11 (by decide) k110 (fun _ h9 => h9) rfl dX5_image_12 ?_
  exact hend ((a_2 16 3), a_2) H locs _ _ hf hP hS dX5_image_15

def f_X5_on (M : St) : Option (Int32 × St) := (if (M 16 7) = 0 then (bd (f_X5_no M (-3 : Int32)) fun a_3 => (some (a_3.1, a_3.2))) else (bd (f_X5_passesAll M (0 : Int32) (0 : Int32)) fun a_2 => (some ((a_2 16 3), a_2))))
def rm_X5_on : Room := { frames := 2, cells := 0, slots := 0, locals := 44 }
theorem hd_X5_on : yX5_on.cls = RX5 ∧ yX5_on.cls ≠ "java/lang/invoke/MethodHandle" ∧ yX5_on.cls ≠ "java/lang/invoke/VarHandle" ∧ (parseMethodDescriptor yX5_on.desc).map (fun d => d.parameters.length) = some 0 := by decide +kernel
set_option maxRecDepth 100000 in
set_option maxHeartbeats 4000000 in
theorem c_X5_on (l : Launch) (D : va_G) (cI : ClassId) (A : Nat → Nat) (M : St) (r : Int32 × St) (hf : f_X5_on M = some r) : Ct l yX5_on wsX5_on rm_X5_on D cI (cM cI A M) (cM cI A r.2) [.ref (A 0)] (some (.int r.1)) := by
  unfold f_X5_on at hf
  refine Ct.ofI (cc := cX5_on) (maxL := 1) (by decide +kernel) rfl (Nat.le_of_ble_eq_true rfl) ?_
  intro p e s m args below meth c AA Q H locs ls hx hb hml hown hts hA hK hP hD hS hl hend0
  have hend : ∀ (r1 : Int32 × St) (H : Heap) (locs : List Loc) (pc : Nat) (ls : Array Slot), some r1 = some r → va_P D vwCl (cM cI A r1.2) H → va_S AA s.heap H locs → decode cX5_on pc = .ok (.ireturn, 1) → W p l e rm_X5_on s m args below meth c H locs 0 0 Q (F0 m pc ls [.int r1.1]) := by
    intro r1 H locs pc ls e1 hP hS hd; cases e1; exact hend0 H locs pc ls hP hS hd
  clear hend0
  have hw5 : ∀ w ∈ wsX50, w ∈ wsX5_on := by decide +kernel
  have k110 := hts (.fieldLink RX5 110 "AnchorsForConfessionModel" "tide" "I") (by decide +kernel)
  have k163 := hts (.fieldLink RX5 163 "AnchorsForConfessionModel" "hasImage" "Z") (by decide +kernel)
  replace hl : lv_has ls 1 [(0, .ref (A 0))] := hl
  refine lv_aload_n hx hb dX5_on_0 rfl (lv_at hl 0 rfl) ?_
  refine va_get (D := D) (ci := 5) (v := .int (M 16 7)) (C := RX5) (T := TX5) (N := 27) hx hb hts hw5 hown hK hP 0 cM_at0 rfl 20 (by decide) k163 (fun _ h9 => h9) rfl dX5_on_1 ?_
  refine lv_if_ne (tgt := 14) hx hb dX5_on_4 (by decide) (fun c_1 => ?_) (fun c_1 => ?_)
  · replace hf := if_f c_1 hf
    refine lv_aload_n hx hb dX5_on_14 rfl (lv_at hl 0 rfl) ?_
    refine lv_iconst (v := 0) hx hb dX5_on_15 (by decide) ?_
    refine lv_iconst (v := 0) hx hb dX5_on_16 (by decide) ?_
    obtain ⟨a_2, ha_2, hf⟩ := bd_e hf
    refine Ct.callV (As := [.int (0 : Int32), .int (0 : Int32)]) (rest := []) (st1 := []) (c_X5_passesAll l D cI A M (0 : Int32) (0 : Int32) a_2 ha_2) hx hb hml hown hts (cwV 2 hts gX5_on_X5_passesAll rfl rfl rfl hd_X5_passesAll ⟨Nat.le_of_ble_eq_true rfl, Nat.le_of_ble_eq_true rfl⟩) (va_recv hK hP (ci := 5) (q0 := 0) rfl cM_at0) (Ln.id rfl) hA hK hP hD hS rfl hl.1 rfl rfl (Nat.le_of_ble_eq_true rfl) dX5_on_17 (fun H locs hP hD hS => ?_)
    replace hP : va_P D vwCl (cM cI A a_2) H := hP
    replace hD : va_D AA (cM cI A a_2) := hD
    refine lv_aload_n hx hb dX5_on_20 rfl (lv_at hl 0 rfl) ?_
    refine va_get (D := D) (ci := 5) (v := .int (a_2 16 3)) (C := RX5) (T := TX5) (N := 27) hx hb hts hw5 hown hK hP 0 cM_at0 rfl 11 (by decide) k110 (fun _ h9 => h9) rfl dX5_on_21 ?_
    exact hend ((a_2 16 3), a_2) H locs _ _ hf hP hS dX5_on_24
  · replace hf := if_t c_1 hf
    refine lv_aload_n hx hb dX5_on_7 rfl (lv_at hl 0 rfl) ?_
    refine lv_bipush (v := -3) hx hb dX5_on_8 (by decide +kernel) ?_
    obtain ⟨a_3, ha_3, hf⟩ := bd_e hf
    refine Ct.callV (As := [.int (-3 : Int32)]) (rest := []) (st1 := [.int a_3.1]) (c_X5_no l D cI A M (-3 : Int32) a_3 ha_3) hx hb hml hown hts (cwV 1 hts gX5_on_X5_no rfl rfl rfl hd_X5_no ⟨Nat.le_of_ble_eq_true rfl, Nat.le_of_ble_eq_true rfl⟩) (va_recv hK hP (ci := 5) (q0 := 0) rfl cM_at0) (Ln.id rfl) hA hK hP hD hS rfl hl.1 rfl rfl (Nat.le_of_ble_eq_true rfl) dX5_on_10 (fun H locs hP hD hS => ?_)
    replace hP : va_P D vwCl (cM cI A a_3.2) H := hP
    replace hD : va_D AA (cM cI A a_3.2) := hD
    exact hend (a_3.1, a_3.2) H locs _ _ hf hP hS dX5_on_13

def f_X5_lacks (M : St) (p1 : Int32) : Option (Int32) := (gi p1 5 (if 0 < (M 3 (p1).toNatClampNeg) then (some (0 : Int32)) else (gi p1 5 (bd (f_X5_holds M p1) fun a_4 => (if (M 2 (p1).toNatClampNeg) < a_4 then (bd (f_X5_holds M p1) fun a_6 => (gi p1 5 (some (a_6 - (M 2 (p1).toNatClampNeg))))) else (some (0 : Int32)))))))
def rm_X5_lacks : Room := { frames := 1, cells := 0, slots := 0, locals := 21 }
theorem hd_X5_lacks : yX5_lacks.cls = RX5 ∧ yX5_lacks.cls ≠ "java/lang/invoke/MethodHandle" ∧ yX5_lacks.cls ≠ "java/lang/invoke/VarHandle" ∧ (parseMethodDescriptor yX5_lacks.desc).map (fun d => d.parameters.length) = some 1 := by decide +kernel
set_option maxRecDepth 100000 in
set_option maxHeartbeats 4000000 in
theorem c_X5_lacks (l : Launch) (D : va_G) (cI : ClassId) (A : Nat → Nat) (M : St) (p1 : Int32) (r : Int32) (hf : f_X5_lacks M p1 = some r) : Ct l yX5_lacks wsX5_lacks rm_X5_lacks D cI (cM cI A M) (cM cI A M) [.ref (A 0), .int p1] (some (.int r)) := by
  unfold f_X5_lacks at hf
  refine Ct.ofI (cc := cX5_lacks) (maxL := 2) (by decide +kernel) rfl (Nat.le_of_ble_eq_true rfl) ?_
  intro p e s m args below meth c AA Q H locs ls hx hb hml hown hts hA hK hP hD hS hl hend0
  have hend : ∀ (r1 : Int32) (H : Heap) (locs : List Loc) (pc : Nat) (ls : Array Slot), some r1 = some r → va_P D vwCl (cM cI A M) H → va_S AA s.heap H locs → decode cX5_lacks pc = .ok (.ireturn, 1) → W p l e rm_X5_lacks s m args below meth c H locs 0 0 Q (F0 m pc ls [.int r1]) := by
    intro r1 H locs pc ls e1 hP hS hd; cases e1; exact hend0 H locs pc ls hP hS hd
  clear hend0
  have hw5 : ∀ w ∈ wsX50, w ∈ wsX5_lacks := by decide +kernel
  have k16 := hts (.fieldLink RX5 16 "AnchorsForConfessionModel" "loose" "[I") (by decide +kernel)
  have k19 := hts (.fieldLink RX5 19 "AnchorsForConfessionModel" "out" "[I") (by decide +kernel)
  replace hl : lv_has ls 2 [(0, .ref (A 0)), (1, .int p1)] := hl
  refine lv_aload_n hx hb dX5_lacks_0 rfl (lv_at hl 0 rfl) ?_
  refine va_get (D := D) (ci := 5) (v := .ref (A 4)) (C := RX5) (T := TX5) (N := 27) hx hb hts hw5 hown hK hP 0 cM_at0 rfl 3 (by decide) k19 (fun _ h9 => h9) rfl dX5_lacks_1 ?_
  refine lv_iload_n hx hb dX5_lacks_4 rfl (lv_at hl 1 rfl) ?_
  obtain ⟨c_1, hf⟩ := gi_e hf
  refine va_iald hx hb hK hP 4 0 cM_at4 rfl c_1 dX5_lacks_5 ?_
  refine lv_if_gt (tgt := 23) hx hb dX5_lacks_6 (by decide) (fun c_2 => ?_) (fun c_2 => ?_)
  · replace hf := if_t c_2 hf
    refine lv_iconst (v := 0) hx hb dX5_lacks_23 (by decide) ?_
    refine lv_goto (tgt := 39) hx hb dX5_lacks_24 (by decide) ?_
    exact hend (0 : Int32) H locs _ _ hf hP hS dX5_lacks_39
  · replace hf := if_f c_2 hf
    refine lv_aload_n hx hb dX5_lacks_9 rfl (lv_at hl 0 rfl) ?_
    refine va_get (D := D) (ci := 5) (v := .ref (A 3)) (C := RX5) (T := TX5) (N := 27) hx hb hts hw5 hown hK hP 0 cM_at0 rfl 2 (by decide) k16 (fun _ h9 => h9) rfl dX5_lacks_10 ?_
    refine lv_iload_n hx hb dX5_lacks_13 rfl (lv_at hl 1 rfl) ?_
    obtain ⟨c_3, hf⟩ := gi_e hf
    refine va_iald hx hb hK hP 3 0 cM_at3 rfl c_3 dX5_lacks_14 ?_
    refine lv_aload_n hx hb dX5_lacks_15 rfl (lv_at hl 0 rfl) ?_
    refine lv_iload_n hx hb dX5_lacks_16 rfl (lv_at hl 1 rfl) ?_
    obtain ⟨a_4, ha_4, hf⟩ := bd_e hf
    refine Ct.callV (As := [.int p1]) (rest := [.int (M 2 (p1).toNatClampNeg)]) (st1 := [.int a_4, .int (M 2 (p1).toNatClampNeg)]) (c_X5_holds l D cI A M p1 a_4 ha_4) hx hb hml hown hts (cwV 1 hts gX5_lacks_X5_holds rfl rfl rfl hd_X5_holds ⟨Nat.le_of_ble_eq_true rfl, Nat.le_of_ble_eq_true rfl⟩) (va_recv hK hP (ci := 5) (q0 := 0) rfl cM_at0) (Ln.id rfl) hA hK hP hD hS rfl hl.1 rfl rfl (Nat.le_of_ble_eq_true rfl) dX5_lacks_17 (fun H locs hP hD hS => ?_)
    refine lv_icmp_lt (tgt := 27) hx hb dX5_lacks_20 (by decide) (fun c_5 => ?_) (fun c_5 => ?_)
    · replace hf := if_t c_5 hf
      refine lv_aload_n hx hb dX5_lacks_27 rfl (lv_at hl 0 rfl) ?_
      refine lv_iload_n hx hb dX5_lacks_28 rfl (lv_at hl 1 rfl) ?_
      obtain ⟨a_6, ha_6, hf⟩ := bd_e hf
      refine Ct.callV (As := [.int p1]) (rest := []) (st1 := [.int a_6]) (c_X5_holds l D cI A M p1 a_6 ha_6) hx hb hml hown hts (cwV 1 hts gX5_lacks_X5_holds rfl rfl rfl hd_X5_holds ⟨Nat.le_of_ble_eq_true rfl, Nat.le_of_ble_eq_true rfl⟩) (va_recv hK hP (ci := 5) (q0 := 0) rfl cM_at0) (Ln.id rfl) hA hK hP hD hS rfl hl.1 rfl rfl (Nat.le_of_ble_eq_true rfl) dX5_lacks_29 (fun H locs hP hD hS => ?_)
      refine lv_aload_n hx hb dX5_lacks_32 rfl (lv_at hl 0 rfl) ?_
      refine va_get (D := D) (ci := 5) (v := .ref (A 3)) (C := RX5) (T := TX5) (N := 27) hx hb hts hw5 hown hK hP 0 cM_at0 rfl 2 (by decide) k16 (fun _ h9 => h9) rfl dX5_lacks_33 ?_
      refine lv_iload_n hx hb dX5_lacks_36 rfl (lv_at hl 1 rfl) ?_
      obtain ⟨c_7, hf⟩ := gi_e hf
      refine va_iald hx hb hK hP 3 0 cM_at3 rfl c_7 dX5_lacks_37 ?_
      refine lv_isub hx hb dX5_lacks_38 ?_
      exact hend (a_6 - (M 2 (p1).toNatClampNeg)) H locs _ _ hf hP hS dX5_lacks_39
    · replace hf := if_f c_5 hf
      refine lv_iconst (v := 0) hx hb dX5_lacks_23 (by decide) ?_
      refine lv_goto (tgt := 39) hx hb dX5_lacks_24 (by decide) ?_
      exact hend (0 : Int32) H locs _ _ hf hP hS dX5_lacks_39

def f_X5_poolOn (M : St) (p1 : Int32) (p2 : Int32) : Option (Int32) := (lp (fun (nx5 : (Int32 × Int32) → Option (Int32)) (q5 : Int32 × Int32) => (if (M 16 1) ≤ q5.2 then (some q5.1) else (gi q5.2 8 (if (M 7 (q5.2).toNatClampNeg) = p1 then (gi q5.2 8 (bd (f_X5_worthOn M q5.2 p2) fun a_7 => (nm (q5.1 + ((M 6 (q5.2).toNatClampNeg) * a_7)) fun v_8 => (nm (q5.2 + (1 : Int32)) fun v_9 => (nx5 (v_8, v_9)))))) else (nm (q5.1 + (0 : Int32)) fun v_4 => (nm (q5.2 + (1 : Int32)) fun v_5 => (nx5 (v_4, v_5)))))))) 1000 ((0 : Int32), (0 : Int32)))
def rm_X5_poolOn : Room := { frames := 1, cells := 0, slots := 0, locals := 24 }
theorem hd_X5_poolOn : yX5_poolOn.cls = RX5 ∧ yX5_poolOn.cls ≠ "java/lang/invoke/MethodHandle" ∧ yX5_poolOn.cls ≠ "java/lang/invoke/VarHandle" ∧ (parseMethodDescriptor yX5_poolOn.desc).map (fun d => d.parameters.length) = some 2 := by decide +kernel
set_option maxRecDepth 100000 in
set_option maxHeartbeats 4000000 in
theorem c_X5_poolOn (l : Launch) (D : va_G) (cI : ClassId) (A : Nat → Nat) (M : St) (p1 : Int32) (p2 : Int32) (r : Int32) (hf : f_X5_poolOn M p1 p2 = some r) : Ct l yX5_poolOn wsX5_poolOn rm_X5_poolOn D cI (cM cI A M) (cM cI A M) [.ref (A 0), .int p1, .int p2] (some (.int r)) := by
  unfold f_X5_poolOn at hf
  refine Ct.ofI (cc := cX5_poolOn) (maxL := 5) (by decide +kernel) rfl (Nat.le_of_ble_eq_true rfl) ?_
  intro p e s m args below meth c AA Q H locs ls hx hb hml hown hts hA hK hP hD hS hl hend0
  have hend : ∀ (r1 : Int32) (H : Heap) (locs : List Loc) (pc : Nat) (ls : Array Slot), some r1 = some r → va_P D vwCl (cM cI A M) H → va_S AA s.heap H locs → decode cX5_poolOn pc = .ok (.ireturn, 1) → W p l e rm_X5_poolOn s m args below meth c H locs 0 0 Q (F0 m pc ls [.int r1]) := by
    intro r1 H locs pc ls e1 hP hS hd; cases e1; exact hend0 H locs pc ls hP hS hd
  clear hend0
  have hw5 : ∀ w ∈ wsX50, w ∈ wsX5_poolOn := by decide +kernel
  have k28 := hts (.fieldLink RX5 28 "AnchorsForConfessionModel" "sins" "[I") (by decide +kernel)
  have k31 := hts (.fieldLink RX5 31 "AnchorsForConfessionModel" "aboard" "[I") (by decide +kernel)
  have k65 := hts (.fieldLink RX5 65 "AnchorsForConfessionModel" "men" "I") (by decide +kernel)
  replace hl : lv_has ls 5 [(0, .ref (A 0)), (1, .int p1), (2, .int p2)] := hl
  refine lv_iconst (v := 0) hx hb dX5_poolOn_0 (by decide) ?_
  refine lv_istore_n (lv' := [(3, .int (0 : Int32)), (0, .ref (A 0)), (1, .int p1), (2, .int p2)]) hx hb dX5_poolOn_1 rfl hl (by decide) rfl (fun ls hl => ?_)
  refine lv_iconst (v := 0) hx hb dX5_poolOn_2 (by decide) ?_
  refine lv_istore (lv' := [(4, .int (0 : Int32)), (3, .int (0 : Int32)), (0, .ref (A 0)), (1, .int p1), (2, .int p2)]) hx hb dX5_poolOn_3 hl (by decide) rfl (fun ls hl => ?_)
  refine lp_ind (P := fun (q5 : Int32 × Int32) => ∀ (H : Heap) (locs : List Loc) (ls : Array Slot), va_P D vwCl (cM cI A M) H → va_D AA (cM cI A M) → va_S AA s.heap H locs → lv_has ls 5 [(0, .ref (A 0)), (1, .int p1), (2, .int p2), (3, .int q5.1), (4, .int q5.2)] → W p l e rm_X5_poolOn s m args below meth c H locs 0 0 Q (F0 m 5 ls [])) hf ?_ H locs ls hP hD hS (lv_sub hl [2, 3, 4, 1, 0] rfl)
  clear hf hP hD hS hl
  intro nx5 ih5 q5 hf H locs ls hP hD hS hl
  refine lv_iload hx hb dX5_poolOn_5 (lv_at hl 4 rfl) ?_
  refine lv_aload_n hx hb dX5_poolOn_7 rfl (lv_at hl 0 rfl) ?_
  refine va_get (D := D) (ci := 5) (v := .int (M 16 1)) (C := RX5) (T := TX5) (N := 27) hx hb hts hw5 hown hK hP 0 cM_at0 rfl 9 (by decide) k65 (fun _ h9 => h9) rfl dX5_poolOn_8 ?_
  refine lv_icmp_ge (tgt := 53) hx hb dX5_poolOn_11 (by decide) (fun c_1 => ?_) (fun c_1 => ?_)
  · replace hf := if_t c_1 hf
    refine lv_iload_n hx hb dX5_poolOn_53 rfl (lv_at hl 3 rfl) ?_
    exact hend q5.1 H locs _ _ hf hP hS dX5_poolOn_54
  · replace hf := if_f c_1 hf
    refine lv_iload_n hx hb dX5_poolOn_14 rfl (lv_at hl 3 rfl) ?_
    refine lv_aload_n hx hb dX5_poolOn_15 rfl (lv_at hl 0 rfl) ?_
    refine va_get (D := D) (ci := 5) (v := .ref (A 8)) (C := RX5) (T := TX5) (N := 27) hx hb hts hw5 hown hK hP 0 cM_at0 rfl 7 (by decide) k31 (fun _ h9 => h9) rfl dX5_poolOn_16 ?_
    refine lv_iload hx hb dX5_poolOn_19 (lv_at hl 4 rfl) ?_
    obtain ⟨c_2, hf⟩ := gi_e hf
    refine va_iald hx hb hK hP 8 0 cM_at8 rfl c_2 dX5_poolOn_21 ?_
    refine lv_iload_n hx hb dX5_poolOn_22 rfl (lv_at hl 1 rfl) ?_
    refine lv_icmp_ne (tgt := 44) hx hb dX5_poolOn_23 (by decide) (fun c_3 => ?_) (fun c_3 => ?_)
    · replace hf := if_f c_3 hf
      refine lv_iconst (v := 0) hx hb dX5_poolOn_44 (by decide) ?_
      refine lv_iadd hx hb dX5_poolOn_45 ?_
      refine lv_topi (fun v_4 ev_4 => ?_)
      replace hf := nm_at ev_4 hf
      refine lv_istore_n (lv' := [(3, .int v_4), (0, .ref (A 0)), (1, .int p1), (2, .int p2), (4, .int q5.2)]) hx hb dX5_poolOn_46 rfl hl (by decide) rfl (fun ls hl => ?_)
      obtain ⟨v_5, ev_5, hf⟩ := nm_e hf
      refine lv_iinc (v := v_5) (lv' := [(4, .int v_5), (3, .int v_4), (0, .ref (A 0)), (1, .int p1), (2, .int p2)]) hx hb dX5_poolOn_47 hl (k := 4) rfl (by rw [ev_5]; rfl) (by decide) rfl (fun ls hl => ?_)
      refine lv_goto (tgt := 5) hx hb dX5_poolOn_50 (by decide) ?_
      exact ih5 (v_4, v_5) hf H locs ls hP hD hS (lv_sub hl [2, 3, 4, 1, 0] rfl)
    · replace hf := if_t c_3 hf
      refine lv_aload_n hx hb dX5_poolOn_26 rfl (lv_at hl 0 rfl) ?_
      refine va_get (D := D) (ci := 5) (v := .ref (A 7)) (C := RX5) (T := TX5) (N := 27) hx hb hts hw5 hown hK hP 0 cM_at0 rfl 6 (by decide) k28 (fun _ h9 => h9) rfl dX5_poolOn_27 ?_
      refine lv_iload hx hb dX5_poolOn_30 (lv_at hl 4 rfl) ?_
      obtain ⟨c_6, hf⟩ := gi_e hf
      refine va_iald hx hb hK hP 7 0 cM_at7 rfl c_6 dX5_poolOn_32 ?_
      refine lv_aload_n hx hb dX5_poolOn_33 rfl (lv_at hl 0 rfl) ?_
      refine lv_iload hx hb dX5_poolOn_34 (lv_at hl 4 rfl) ?_
      refine lv_iload_n hx hb dX5_poolOn_36 rfl (lv_at hl 2 rfl) ?_
      obtain ⟨a_7, ha_7, hf⟩ := bd_e hf
      refine Ct.callV (As := [.int q5.2, .int p2]) (rest := [.int (M 6 (q5.2).toNatClampNeg), .int q5.1]) (st1 := [.int a_7, .int (M 6 (q5.2).toNatClampNeg), .int q5.1]) (c_X5_worthOn l D cI A M q5.2 p2 a_7 ha_7) hx hb hml hown hts (cwV 2 hts gX5_poolOn_X5_worthOn rfl rfl rfl hd_X5_worthOn ⟨Nat.le_of_ble_eq_true rfl, Nat.le_of_ble_eq_true rfl⟩) (va_recv hK hP (ci := 5) (q0 := 0) rfl cM_at0) (Ln.id rfl) hA hK hP hD hS rfl hl.1 rfl rfl (Nat.le_of_ble_eq_true rfl) dX5_poolOn_37 (fun H locs hP hD hS => ?_)
      refine lv_imul hx hb dX5_poolOn_40 ?_
      refine lv_goto (tgt := 45) hx hb dX5_poolOn_41 (by decide) ?_
      refine lv_iadd hx hb dX5_poolOn_45 ?_
      refine lv_topi (fun v_8 ev_8 => ?_)
      replace hf := nm_at ev_8 hf
      refine lv_istore_n (lv' := [(3, .int v_8), (0, .ref (A 0)), (1, .int p1), (2, .int p2), (4, .int q5.2)]) hx hb dX5_poolOn_46 rfl hl (by decide) rfl (fun ls hl => ?_)
      obtain ⟨v_9, ev_9, hf⟩ := nm_e hf
      refine lv_iinc (v := v_9) (lv' := [(4, .int v_9), (3, .int v_8), (0, .ref (A 0)), (1, .int p1), (2, .int p2)]) hx hb dX5_poolOn_47 hl (k := 4) rfl (by rw [ev_9]; rfl) (by decide) rfl (fun ls hl => ?_)
      refine lv_goto (tgt := 5) hx hb dX5_poolOn_50 (by decide) ?_
      exact ih5 (v_8, v_9) hf H locs ls hP hD hS (lv_sub hl [2, 3, 4, 1, 0] rfl)

def f_X5_pool (M : St) (p1 : Int32) : Option (Int32) := (bd (f_X5_poolOn M p1 (M 16 3)) fun a_1 => (some a_1))
def rm_X5_pool : Room := { frames := 2, cells := 0, slots := 0, locals := 48 }
theorem hd_X5_pool : yX5_pool.cls = RX5 ∧ yX5_pool.cls ≠ "java/lang/invoke/MethodHandle" ∧ yX5_pool.cls ≠ "java/lang/invoke/VarHandle" ∧ (parseMethodDescriptor yX5_pool.desc).map (fun d => d.parameters.length) = some 1 := by decide +kernel
set_option maxRecDepth 100000 in
set_option maxHeartbeats 4000000 in
theorem c_X5_pool (l : Launch) (D : va_G) (cI : ClassId) (A : Nat → Nat) (M : St) (p1 : Int32) (r : Int32) (hf : f_X5_pool M p1 = some r) : Ct l yX5_pool wsX5_pool rm_X5_pool D cI (cM cI A M) (cM cI A M) [.ref (A 0), .int p1] (some (.int r)) := by
  unfold f_X5_pool at hf
  refine Ct.ofI (cc := cX5_pool) (maxL := 2) (by decide +kernel) rfl (Nat.le_of_ble_eq_true rfl) ?_
  intro p e s m args below meth c AA Q H locs ls hx hb hml hown hts hA hK hP hD hS hl hend0
  have hend : ∀ (r1 : Int32) (H : Heap) (locs : List Loc) (pc : Nat) (ls : Array Slot), some r1 = some r → va_P D vwCl (cM cI A M) H → va_S AA s.heap H locs → decode cX5_pool pc = .ok (.ireturn, 1) → W p l e rm_X5_pool s m args below meth c H locs 0 0 Q (F0 m pc ls [.int r1]) := by
    intro r1 H locs pc ls e1 hP hS hd; cases e1; exact hend0 H locs pc ls hP hS hd
  clear hend0
  have hw5 : ∀ w ∈ wsX50, w ∈ wsX5_pool := by decide +kernel
  have k110 := hts (.fieldLink RX5 110 "AnchorsForConfessionModel" "tide" "I") (by decide +kernel)
  replace hl : lv_has ls 2 [(0, .ref (A 0)), (1, .int p1)] := hl
  refine lv_aload_n hx hb dX5_pool_0 rfl (lv_at hl 0 rfl) ?_
  refine lv_iload_n hx hb dX5_pool_1 rfl (lv_at hl 1 rfl) ?_
  refine lv_aload_n hx hb dX5_pool_2 rfl (lv_at hl 0 rfl) ?_
  refine va_get (D := D) (ci := 5) (v := .int (M 16 3)) (C := RX5) (T := TX5) (N := 27) hx hb hts hw5 hown hK hP 0 cM_at0 rfl 11 (by decide) k110 (fun _ h9 => h9) rfl dX5_pool_3 ?_
  obtain ⟨a_1, ha_1, hf⟩ := bd_e hf
  refine Ct.callV (As := [.int p1, .int (M 16 3)]) (rest := []) (st1 := [.int a_1]) (c_X5_poolOn l D cI A M p1 (M 16 3) a_1 ha_1) hx hb hml hown hts (cwV 2 hts gX5_pool_X5_poolOn rfl rfl rfl hd_X5_poolOn ⟨Nat.le_of_ble_eq_true rfl, Nat.le_of_ble_eq_true rfl⟩) (va_recv hK hP (ci := 5) (q0 := 0) rfl cM_at0) (Ln.id rfl) hA hK hP hD hS rfl hl.1 rfl rfl (Nat.le_of_ble_eq_true rfl) dX5_pool_6 (fun H locs hP hD hS => ?_)
  exact hend a_1 H locs _ _ hf hP hS dX5_pool_9

def f_X5_crew (M : St) (p1 : Int32) : Option (Int32) := (lp (fun (nx4 : (Int32 × Int32) → Option (Int32)) (q4 : Int32 × Int32) => (if (M 16 1) ≤ q4.2 then (some q4.1) else (gi q4.2 8 (if (M 7 (q4.2).toNatClampNeg) = p1 then (nm (q4.1 ||| ((1 : Int32) <<< (q4.2 &&& 31))) fun v_6 => (nm (q4.2 + (1 : Int32)) fun v_7 => (nx4 (v_6, v_7)))) else (nm (q4.1 ||| (0 : Int32)) fun v_4 => (nm (q4.2 + (1 : Int32)) fun v_5 => (nx4 (v_4, v_5)))))))) 1000 ((0 : Int32), (0 : Int32)))
def rm_X5_crew : Room := { frames := 0, cells := 0, slots := 0, locals := 0 }
theorem hd_X5_crew : yX5_crew.cls = RX5 ∧ yX5_crew.cls ≠ "java/lang/invoke/MethodHandle" ∧ yX5_crew.cls ≠ "java/lang/invoke/VarHandle" ∧ (parseMethodDescriptor yX5_crew.desc).map (fun d => d.parameters.length) = some 1 := by decide +kernel
set_option maxRecDepth 100000 in
set_option maxHeartbeats 4000000 in
theorem c_X5_crew (l : Launch) (D : va_G) (cI : ClassId) (A : Nat → Nat) (M : St) (p1 : Int32) (r : Int32) (hf : f_X5_crew M p1 = some r) : Ct l yX5_crew wsX5_crew rm_X5_crew D cI (cM cI A M) (cM cI A M) [.ref (A 0), .int p1] (some (.int r)) := by
  unfold f_X5_crew at hf
  refine Ct.ofI (cc := cX5_crew) (maxL := 4) (by decide +kernel) rfl (Nat.le_of_ble_eq_true rfl) ?_
  intro p e s m args below meth c AA Q H locs ls hx hb hml hown hts hA hK hP hD hS hl hend0
  have hend : ∀ (r1 : Int32) (H : Heap) (locs : List Loc) (pc : Nat) (ls : Array Slot), some r1 = some r → va_P D vwCl (cM cI A M) H → va_S AA s.heap H locs → decode cX5_crew pc = .ok (.ireturn, 1) → W p l e rm_X5_crew s m args below meth c H locs 0 0 Q (F0 m pc ls [.int r1]) := by
    intro r1 H locs pc ls e1 hP hS hd; cases e1; exact hend0 H locs pc ls hP hS hd
  clear hend0
  have hw5 : ∀ w ∈ wsX50, w ∈ wsX5_crew := by decide +kernel
  have k31 := hts (.fieldLink RX5 31 "AnchorsForConfessionModel" "aboard" "[I") (by decide +kernel)
  have k65 := hts (.fieldLink RX5 65 "AnchorsForConfessionModel" "men" "I") (by decide +kernel)
  replace hl : lv_has ls 4 [(0, .ref (A 0)), (1, .int p1)] := hl
  refine lv_iconst (v := 0) hx hb dX5_crew_0 (by decide) ?_
  refine lv_istore_n (lv' := [(2, .int (0 : Int32)), (0, .ref (A 0)), (1, .int p1)]) hx hb dX5_crew_1 rfl hl (by decide) rfl (fun ls hl => ?_)
  refine lv_iconst (v := 0) hx hb dX5_crew_2 (by decide) ?_
  refine lv_istore_n (lv' := [(3, .int (0 : Int32)), (2, .int (0 : Int32)), (0, .ref (A 0)), (1, .int p1)]) hx hb dX5_crew_3 rfl hl (by decide) rfl (fun ls hl => ?_)
  refine lp_ind (P := fun (q4 : Int32 × Int32) => ∀ (H : Heap) (locs : List Loc) (ls : Array Slot), va_P D vwCl (cM cI A M) H → va_D AA (cM cI A M) → va_S AA s.heap H locs → lv_has ls 4 [(0, .ref (A 0)), (1, .int p1), (2, .int q4.1), (3, .int q4.2)] → W p l e rm_X5_crew s m args below meth c H locs 0 0 Q (F0 m 4 ls [])) hf ?_ H locs ls hP hD hS (lv_sub hl [2, 3, 1, 0] rfl)
  clear hf hP hD hS hl
  intro nx4 ih4 q4 hf H locs ls hP hD hS hl
  refine lv_iload_n hx hb dX5_crew_4 rfl (lv_at hl 3 rfl) ?_
  refine lv_aload_n hx hb dX5_crew_5 rfl (lv_at hl 0 rfl) ?_
  refine va_get (D := D) (ci := 5) (v := .int (M 16 1)) (C := RX5) (T := TX5) (N := 27) hx hb hts hw5 hown hK hP 0 cM_at0 rfl 9 (by decide) k65 (fun _ h9 => h9) rfl dX5_crew_6 ?_
  refine lv_icmp_ge (tgt := 38) hx hb dX5_crew_9 (by decide) (fun c_1 => ?_) (fun c_1 => ?_)
  · replace hf := if_t c_1 hf
    refine lv_iload_n hx hb dX5_crew_38 rfl (lv_at hl 2 rfl) ?_
    exact hend q4.1 H locs _ _ hf hP hS dX5_crew_39
  · replace hf := if_f c_1 hf
    refine lv_iload_n hx hb dX5_crew_12 rfl (lv_at hl 2 rfl) ?_
    refine lv_aload_n hx hb dX5_crew_13 rfl (lv_at hl 0 rfl) ?_
    refine va_get (D := D) (ci := 5) (v := .ref (A 8)) (C := RX5) (T := TX5) (N := 27) hx hb hts hw5 hown hK hP 0 cM_at0 rfl 7 (by decide) k31 (fun _ h9 => h9) rfl dX5_crew_14 ?_
    refine lv_iload_n hx hb dX5_crew_17 rfl (lv_at hl 3 rfl) ?_
    obtain ⟨c_2, hf⟩ := gi_e hf
    refine va_iald hx hb hK hP 8 0 cM_at8 rfl c_2 dX5_crew_18 ?_
    refine lv_iload_n hx hb dX5_crew_19 rfl (lv_at hl 1 rfl) ?_
    refine lv_icmp_ne (tgt := 29) hx hb dX5_crew_20 (by decide) (fun c_3 => ?_) (fun c_3 => ?_)
    · replace hf := if_f c_3 hf
      refine lv_iconst (v := 0) hx hb dX5_crew_29 (by decide) ?_
      refine lv_ior hx hb dX5_crew_30 ?_
      refine lv_topi (fun v_4 ev_4 => ?_)
      replace hf := nm_at ev_4 hf
      refine lv_istore_n (lv' := [(2, .int v_4), (0, .ref (A 0)), (1, .int p1), (3, .int q4.2)]) hx hb dX5_crew_31 rfl hl (by decide) rfl (fun ls hl => ?_)
      obtain ⟨v_5, ev_5, hf⟩ := nm_e hf
      refine lv_iinc (v := v_5) (lv' := [(3, .int v_5), (2, .int v_4), (0, .ref (A 0)), (1, .int p1)]) hx hb dX5_crew_32 hl (k := 3) rfl (by rw [ev_5]; rfl) (by decide) rfl (fun ls hl => ?_)
      refine lv_goto (tgt := 4) hx hb dX5_crew_35 (by decide) ?_
      exact ih4 (v_4, v_5) hf H locs ls hP hD hS (lv_sub hl [2, 3, 1, 0] rfl)
    · replace hf := if_t c_3 hf
      refine lv_iconst (v := 1) hx hb dX5_crew_23 (by decide) ?_
      refine lv_iload_n hx hb dX5_crew_24 rfl (lv_at hl 3 rfl) ?_
      refine lv_ishl hx hb dX5_crew_25 ?_
      refine lv_goto (tgt := 30) hx hb dX5_crew_26 (by decide) ?_
      refine lv_ior hx hb dX5_crew_30 ?_
      refine lv_topi (fun v_6 ev_6 => ?_)
      replace hf := nm_at ev_6 hf
      refine lv_istore_n (lv' := [(2, .int v_6), (0, .ref (A 0)), (1, .int p1), (3, .int q4.2)]) hx hb dX5_crew_31 rfl hl (by decide) rfl (fun ls hl => ?_)
      obtain ⟨v_7, ev_7, hf⟩ := nm_e hf
      refine lv_iinc (v := v_7) (lv' := [(3, .int v_7), (2, .int v_6), (0, .ref (A 0)), (1, .int p1)]) hx hb dX5_crew_32 hl (k := 3) rfl (by rw [ev_7]; rfl) (by decide) rfl (fun ls hl => ?_)
      refine lv_goto (tgt := 4) hx hb dX5_crew_35 (by decide) ?_
      exact ih4 (v_6, v_7) hf H locs ls hP hD hS (lv_sub hl [2, 3, 1, 0] rfl)

def f_X5_outOnes (M : St) : Option (Int32) := (lp (fun (nx4 : (Int32 × Int32) → Option (Int32)) (q4 : Int32 × Int32) => (if (M 16 0) ≤ q4.2 then (some q4.1) else (gi q4.2 5 (if (M 3 (q4.2).toNatClampNeg) ≤ 0 then (nm (q4.1 ||| (0 : Int32)) fun v_4 => (nm (q4.2 + (1 : Int32)) fun v_5 => (nx4 (v_4, v_5)))) else (nm (q4.1 ||| ((1 : Int32) <<< (q4.2 &&& 31))) fun v_6 => (nm (q4.2 + (1 : Int32)) fun v_7 => (nx4 (v_6, v_7)))))))) 1000 ((0 : Int32), (0 : Int32)))
def rm_X5_outOnes : Room := { frames := 0, cells := 0, slots := 0, locals := 0 }
theorem hd_X5_outOnes : yX5_outOnes.cls = RX5 ∧ yX5_outOnes.cls ≠ "java/lang/invoke/MethodHandle" ∧ yX5_outOnes.cls ≠ "java/lang/invoke/VarHandle" ∧ (parseMethodDescriptor yX5_outOnes.desc).map (fun d => d.parameters.length) = some 0 := by decide +kernel
set_option maxRecDepth 100000 in
set_option maxHeartbeats 4000000 in
theorem c_X5_outOnes (l : Launch) (D : va_G) (cI : ClassId) (A : Nat → Nat) (M : St) (r : Int32) (hf : f_X5_outOnes M = some r) : Ct l yX5_outOnes wsX5_outOnes rm_X5_outOnes D cI (cM cI A M) (cM cI A M) [.ref (A 0)] (some (.int r)) := by
  unfold f_X5_outOnes at hf
  refine Ct.ofI (cc := cX5_outOnes) (maxL := 3) (by decide +kernel) rfl (Nat.le_of_ble_eq_true rfl) ?_
  intro p e s m args below meth c AA Q H locs ls hx hb hml hown hts hA hK hP hD hS hl hend0
  have hend : ∀ (r1 : Int32) (H : Heap) (locs : List Loc) (pc : Nat) (ls : Array Slot), some r1 = some r → va_P D vwCl (cM cI A M) H → va_S AA s.heap H locs → decode cX5_outOnes pc = .ok (.ireturn, 1) → W p l e rm_X5_outOnes s m args below meth c H locs 0 0 Q (F0 m pc ls [.int r1]) := by
    intro r1 H locs pc ls e1 hP hS hd; cases e1; exact hend0 H locs pc ls hP hS hd
  clear hend0
  have hw5 : ∀ w ∈ wsX50, w ∈ wsX5_outOnes := by decide +kernel
  have k19 := hts (.fieldLink RX5 19 "AnchorsForConfessionModel" "out" "[I") (by decide +kernel)
  have k58 := hts (.fieldLink RX5 58 "AnchorsForConfessionModel" "ships" "I") (by decide +kernel)
  replace hl : lv_has ls 3 [(0, .ref (A 0))] := hl
  refine lv_iconst (v := 0) hx hb dX5_outOnes_0 (by decide) ?_
  refine lv_istore_n (lv' := [(1, .int (0 : Int32)), (0, .ref (A 0))]) hx hb dX5_outOnes_1 rfl hl (by decide) rfl (fun ls hl => ?_)
  refine lv_iconst (v := 0) hx hb dX5_outOnes_2 (by decide) ?_
  refine lv_istore_n (lv' := [(2, .int (0 : Int32)), (1, .int (0 : Int32)), (0, .ref (A 0))]) hx hb dX5_outOnes_3 rfl hl (by decide) rfl (fun ls hl => ?_)
  refine lp_ind (P := fun (q4 : Int32 × Int32) => ∀ (H : Heap) (locs : List Loc) (ls : Array Slot), va_P D vwCl (cM cI A M) H → va_D AA (cM cI A M) → va_S AA s.heap H locs → lv_has ls 3 [(0, .ref (A 0)), (1, .int q4.1), (2, .int q4.2)] → W p l e rm_X5_outOnes s m args below meth c H locs 0 0 Q (F0 m 4 ls [])) hf ?_ H locs ls hP hD hS (lv_sub hl [2, 1, 0] rfl)
  clear hf hP hD hS hl
  intro nx4 ih4 q4 hf H locs ls hP hD hS hl
  refine lv_iload_n hx hb dX5_outOnes_4 rfl (lv_at hl 2 rfl) ?_
  refine lv_aload_n hx hb dX5_outOnes_5 rfl (lv_at hl 0 rfl) ?_
  refine va_get (D := D) (ci := 5) (v := .int (M 16 0)) (C := RX5) (T := TX5) (N := 27) hx hb hts hw5 hown hK hP 0 cM_at0 rfl 8 (by decide) k58 (fun _ h9 => h9) rfl dX5_outOnes_6 ?_
  refine lv_icmp_ge (tgt := 37) hx hb dX5_outOnes_9 (by decide) (fun c_1 => ?_) (fun c_1 => ?_)
  · replace hf := if_t c_1 hf
    refine lv_iload_n hx hb dX5_outOnes_37 rfl (lv_at hl 1 rfl) ?_
    exact hend q4.1 H locs _ _ hf hP hS dX5_outOnes_38
  · replace hf := if_f c_1 hf
    refine lv_iload_n hx hb dX5_outOnes_12 rfl (lv_at hl 1 rfl) ?_
    refine lv_aload_n hx hb dX5_outOnes_13 rfl (lv_at hl 0 rfl) ?_
    refine va_get (D := D) (ci := 5) (v := .ref (A 4)) (C := RX5) (T := TX5) (N := 27) hx hb hts hw5 hown hK hP 0 cM_at0 rfl 3 (by decide) k19 (fun _ h9 => h9) rfl dX5_outOnes_14 ?_
    refine lv_iload_n hx hb dX5_outOnes_17 rfl (lv_at hl 2 rfl) ?_
    obtain ⟨c_2, hf⟩ := gi_e hf
    refine va_iald hx hb hK hP 4 0 cM_at4 rfl c_2 dX5_outOnes_18 ?_
    refine lv_if_le (tgt := 28) hx hb dX5_outOnes_19 (by decide) (fun c_3 => ?_) (fun c_3 => ?_)
    · replace hf := if_t c_3 hf
      refine lv_iconst (v := 0) hx hb dX5_outOnes_28 (by decide) ?_
      refine lv_ior hx hb dX5_outOnes_29 ?_
      refine lv_topi (fun v_4 ev_4 => ?_)
      replace hf := nm_at ev_4 hf
      refine lv_istore_n (lv' := [(1, .int v_4), (0, .ref (A 0)), (2, .int q4.2)]) hx hb dX5_outOnes_30 rfl hl (by decide) rfl (fun ls hl => ?_)
      obtain ⟨v_5, ev_5, hf⟩ := nm_e hf
      refine lv_iinc (v := v_5) (lv' := [(2, .int v_5), (1, .int v_4), (0, .ref (A 0))]) hx hb dX5_outOnes_31 hl (k := 2) rfl (by rw [ev_5]; rfl) (by decide) rfl (fun ls hl => ?_)
      refine lv_goto (tgt := 4) hx hb dX5_outOnes_34 (by decide) ?_
      exact ih4 (v_4, v_5) hf H locs ls hP hD hS (lv_sub hl [2, 1, 0] rfl)
    · replace hf := if_f c_3 hf
      refine lv_iconst (v := 1) hx hb dX5_outOnes_22 (by decide) ?_
      refine lv_iload_n hx hb dX5_outOnes_23 rfl (lv_at hl 2 rfl) ?_
      refine lv_ishl hx hb dX5_outOnes_24 ?_
      refine lv_goto (tgt := 29) hx hb dX5_outOnes_25 (by decide) ?_
      refine lv_ior hx hb dX5_outOnes_29 ?_
      refine lv_topi (fun v_6 ev_6 => ?_)
      replace hf := nm_at ev_6 hf
      refine lv_istore_n (lv' := [(1, .int v_6), (0, .ref (A 0)), (2, .int q4.2)]) hx hb dX5_outOnes_30 rfl hl (by decide) rfl (fun ls hl => ?_)
      obtain ⟨v_7, ev_7, hf⟩ := nm_e hf
      refine lv_iinc (v := v_7) (lv' := [(2, .int v_7), (1, .int v_6), (0, .ref (A 0))]) hx hb dX5_outOnes_31 hl (k := 2) rfl (by rw [ev_7]; rfl) (by decide) rfl (fun ls hl => ?_)
      refine lv_goto (tgt := 4) hx hb dX5_outOnes_34 (by decide) ?_
      exact ih4 (v_6, v_7) hf H locs ls hP hD hS (lv_sub hl [2, 1, 0] rfl)

def f_X5_allSins (M : St) : Option (Int32) := (lp (fun (nx4 : (Int32 × Int32) → Option (Int32)) (q4 : Int32 × Int32) => (if (M 16 1) ≤ q4.2 then (some q4.1) else (gi q4.2 8 (nm (q4.1 + (M 6 (q4.2).toNatClampNeg)) fun v_3 => (nm (q4.2 + (1 : Int32)) fun v_4 => (nx4 (v_3, v_4))))))) 1000 ((0 : Int32), (0 : Int32)))
def rm_X5_allSins : Room := { frames := 0, cells := 0, slots := 0, locals := 0 }
theorem hd_X5_allSins : yX5_allSins.cls = RX5 ∧ yX5_allSins.cls ≠ "java/lang/invoke/MethodHandle" ∧ yX5_allSins.cls ≠ "java/lang/invoke/VarHandle" ∧ (parseMethodDescriptor yX5_allSins.desc).map (fun d => d.parameters.length) = some 0 := by decide +kernel
set_option maxRecDepth 100000 in
set_option maxHeartbeats 4000000 in
theorem c_X5_allSins (l : Launch) (D : va_G) (cI : ClassId) (A : Nat → Nat) (M : St) (r : Int32) (hf : f_X5_allSins M = some r) : Ct l yX5_allSins wsX5_allSins rm_X5_allSins D cI (cM cI A M) (cM cI A M) [.ref (A 0)] (some (.int r)) := by
  unfold f_X5_allSins at hf
  refine Ct.ofI (cc := cX5_allSins) (maxL := 3) (by decide +kernel) rfl (Nat.le_of_ble_eq_true rfl) ?_
  intro p e s m args below meth c AA Q H locs ls hx hb hml hown hts hA hK hP hD hS hl hend0
  have hend : ∀ (r1 : Int32) (H : Heap) (locs : List Loc) (pc : Nat) (ls : Array Slot), some r1 = some r → va_P D vwCl (cM cI A M) H → va_S AA s.heap H locs → decode cX5_allSins pc = .ok (.ireturn, 1) → W p l e rm_X5_allSins s m args below meth c H locs 0 0 Q (F0 m pc ls [.int r1]) := by
    intro r1 H locs pc ls e1 hP hS hd; cases e1; exact hend0 H locs pc ls hP hS hd
  clear hend0
  have hw5 : ∀ w ∈ wsX50, w ∈ wsX5_allSins := by decide +kernel
  have k28 := hts (.fieldLink RX5 28 "AnchorsForConfessionModel" "sins" "[I") (by decide +kernel)
  have k65 := hts (.fieldLink RX5 65 "AnchorsForConfessionModel" "men" "I") (by decide +kernel)
  replace hl : lv_has ls 3 [(0, .ref (A 0))] := hl
  refine lv_iconst (v := 0) hx hb dX5_allSins_0 (by decide) ?_
  refine lv_istore_n (lv' := [(1, .int (0 : Int32)), (0, .ref (A 0))]) hx hb dX5_allSins_1 rfl hl (by decide) rfl (fun ls hl => ?_)
  refine lv_iconst (v := 0) hx hb dX5_allSins_2 (by decide) ?_
  refine lv_istore_n (lv' := [(2, .int (0 : Int32)), (1, .int (0 : Int32)), (0, .ref (A 0))]) hx hb dX5_allSins_3 rfl hl (by decide) rfl (fun ls hl => ?_)
  refine lp_ind (P := fun (q4 : Int32 × Int32) => ∀ (H : Heap) (locs : List Loc) (ls : Array Slot), va_P D vwCl (cM cI A M) H → va_D AA (cM cI A M) → va_S AA s.heap H locs → lv_has ls 3 [(0, .ref (A 0)), (1, .int q4.1), (2, .int q4.2)] → W p l e rm_X5_allSins s m args below meth c H locs 0 0 Q (F0 m 4 ls [])) hf ?_ H locs ls hP hD hS (lv_sub hl [2, 1, 0] rfl)
  clear hf hP hD hS hl
  intro nx4 ih4 q4 hf H locs ls hP hD hS hl
  refine lv_iload_n hx hb dX5_allSins_4 rfl (lv_at hl 2 rfl) ?_
  refine lv_aload_n hx hb dX5_allSins_5 rfl (lv_at hl 0 rfl) ?_
  refine va_get (D := D) (ci := 5) (v := .int (M 16 1)) (C := RX5) (T := TX5) (N := 27) hx hb hts hw5 hown hK hP 0 cM_at0 rfl 9 (by decide) k65 (fun _ h9 => h9) rfl dX5_allSins_6 ?_
  refine lv_icmp_ge (tgt := 27) hx hb dX5_allSins_9 (by decide) (fun c_1 => ?_) (fun c_1 => ?_)
  · replace hf := if_t c_1 hf
    refine lv_iload_n hx hb dX5_allSins_27 rfl (lv_at hl 1 rfl) ?_
    exact hend q4.1 H locs _ _ hf hP hS dX5_allSins_28
  · replace hf := if_f c_1 hf
    refine lv_iload_n hx hb dX5_allSins_12 rfl (lv_at hl 1 rfl) ?_
    refine lv_aload_n hx hb dX5_allSins_13 rfl (lv_at hl 0 rfl) ?_
    refine va_get (D := D) (ci := 5) (v := .ref (A 7)) (C := RX5) (T := TX5) (N := 27) hx hb hts hw5 hown hK hP 0 cM_at0 rfl 6 (by decide) k28 (fun _ h9 => h9) rfl dX5_allSins_14 ?_
    refine lv_iload_n hx hb dX5_allSins_17 rfl (lv_at hl 2 rfl) ?_
    obtain ⟨c_2, hf⟩ := gi_e hf
    refine va_iald hx hb hK hP 7 0 cM_at7 rfl c_2 dX5_allSins_18 ?_
    refine lv_iadd hx hb dX5_allSins_19 ?_
    refine lv_topi (fun v_3 ev_3 => ?_)
    replace hf := nm_at ev_3 hf
    refine lv_istore_n (lv' := [(1, .int v_3), (0, .ref (A 0)), (2, .int q4.2)]) hx hb dX5_allSins_20 rfl hl (by decide) rfl (fun ls hl => ?_)
    obtain ⟨v_4, ev_4, hf⟩ := nm_e hf
    refine lv_iinc (v := v_4) (lv' := [(2, .int v_4), (1, .int v_3), (0, .ref (A 0))]) hx hb dX5_allSins_21 hl (k := 2) rfl (by rw [ev_4]; rfl) (by decide) rfl (fun ls hl => ?_)
    refine lv_goto (tgt := 4) hx hb dX5_allSins_24 (by decide) ?_
    exact ih4 (v_3, v_4) hf H locs ls hP hD hS (lv_sub hl [2, 1, 0] rfl)

def f_X5_ship (M : St) (p1 : Int32) (p2 : Int32) : Option (Int32 × St) := (bd (f_X5_isShip M p1) fun a_1 => (if a_1 = 0 then (bd (f_X5_no M (-1 : Int32)) fun a_18 => (some (a_18.1, a_18.2))) else (if p2 = 0 then (gi p1 5 (some ((M 1 (p1).toNatClampNeg), M))) else (if p2 = 1 then (gi p1 5 (some ((M 2 (p1).toNatClampNeg), M))) else (if p2 = 2 then (gi p1 5 (some ((M 3 (p1).toNatClampNeg), M))) else (if p2 = 3 then (bd (f_X5_holds M p1) fun a_10 => (some (a_10, M))) else (if p2 = 4 then (bd (f_X5_lacks M p1) fun a_12 => (some (a_12, M))) else (if p2 = 5 then (bd (f_X5_pool M p1) fun a_14 => (some (a_14, M))) else (if p2 = 6 then (bd (f_X5_crew M p1) fun a_16 => (some (a_16, M))) else (bd (f_X5_no M (-2 : Int32)) fun a_17 => (some (a_17.1, a_17.2))))))))))))
def rm_X5_ship : Room := { frames := 3, cells := 0, slots := 0, locals := 69 }
theorem hd_X5_ship : yX5_ship.cls = RX5 ∧ yX5_ship.cls ≠ "java/lang/invoke/MethodHandle" ∧ yX5_ship.cls ≠ "java/lang/invoke/VarHandle" ∧ (parseMethodDescriptor yX5_ship.desc).map (fun d => d.parameters.length) = some 2 := by decide +kernel
set_option maxRecDepth 100000 in
set_option maxHeartbeats 4000000 in
theorem c_X5_ship (l : Launch) (D : va_G) (cI : ClassId) (A : Nat → Nat) (M : St) (p1 : Int32) (p2 : Int32) (r : Int32 × St) (hf : f_X5_ship M p1 p2 = some r) : Ct l yX5_ship wsX5_ship rm_X5_ship D cI (cM cI A M) (cM cI A r.2) [.ref (A 0), .int p1, .int p2] (some (.int r.1)) := by
  unfold f_X5_ship at hf
  refine Ct.ofI (cc := cX5_ship) (maxL := 3) (by decide +kernel) rfl (Nat.le_of_ble_eq_true rfl) ?_
  intro p e s m args below meth c AA Q H locs ls hx hb hml hown hts hA hK hP hD hS hl hend0
  have hend : ∀ (r1 : Int32 × St) (H : Heap) (locs : List Loc) (pc : Nat) (ls : Array Slot), some r1 = some r → va_P D vwCl (cM cI A r1.2) H → va_S AA s.heap H locs → decode cX5_ship pc = .ok (.ireturn, 1) → W p l e rm_X5_ship s m args below meth c H locs 0 0 Q (F0 m pc ls [.int r1.1]) := by
    intro r1 H locs pc ls e1 hP hS hd; cases e1; exact hend0 H locs pc ls hP hS hd
  clear hend0
  have hw5 : ∀ w ∈ wsX50, w ∈ wsX5_ship := by decide +kernel
  have k13 := hts (.fieldLink RX5 13 "AnchorsForConfessionModel" "heavy" "[I") (by decide +kernel)
  have k16 := hts (.fieldLink RX5 16 "AnchorsForConfessionModel" "loose" "[I") (by decide +kernel)
  have k19 := hts (.fieldLink RX5 19 "AnchorsForConfessionModel" "out" "[I") (by decide +kernel)
  replace hl : lv_has ls 3 [(0, .ref (A 0)), (1, .int p1), (2, .int p2)] := hl
  refine lv_aload_n hx hb dX5_ship_0 rfl (lv_at hl 0 rfl) ?_
  refine lv_iload_n hx hb dX5_ship_1 rfl (lv_at hl 1 rfl) ?_
  obtain ⟨a_1, ha_1, hf⟩ := bd_e hf
  refine Ct.callV (As := [.int p1]) (rest := []) (st1 := [.int a_1]) (c_X5_isShip l D cI A M p1 a_1 ha_1) hx hb hml hown hts (cwV 1 hts gX5_ship_X5_isShip rfl rfl rfl hd_X5_isShip ⟨Nat.le_of_ble_eq_true rfl, Nat.le_of_ble_eq_true rfl⟩) (va_recv hK hP (ci := 5) (q0 := 0) rfl cM_at0) (Ln.id rfl) hA hK hP hD hS rfl hl.1 rfl rfl (Nat.le_of_ble_eq_true rfl) dX5_ship_2 (fun H locs hP hD hS => ?_)
  refine lv_if_ne (tgt := 14) hx hb dX5_ship_5 (by decide) (fun c_2 => ?_) (fun c_2 => ?_)
  · replace hf := if_f c_2 hf
    refine lv_iload_n hx hb dX5_ship_14 rfl (lv_at hl 2 rfl) ?_
    by_cases c_3 : p2 = 0
    · replace hf := if_t c_3 hf
      refine lv_tableIn (off := 41) (tgt := 56) hx hb dX5_ship_15 (by rw [c_3]; decide +kernel) (by rw [c_3]; decide +kernel) (by rw [c_3]; decide +kernel) (by decide) ?_
      refine lv_aload_n hx hb dX5_ship_56 rfl (lv_at hl 0 rfl) ?_
      refine va_get (D := D) (ci := 5) (v := .ref (A 2)) (C := RX5) (T := TX5) (N := 27) hx hb hts hw5 hown hK hP 0 cM_at0 rfl 1 (by decide) k13 (fun _ h9 => h9) rfl dX5_ship_57 ?_
      refine lv_iload_n hx hb dX5_ship_60 rfl (lv_at hl 1 rfl) ?_
      obtain ⟨c_4, hf⟩ := gi_e hf
      refine va_iald hx hb hK hP 2 0 cM_at2 rfl c_4 dX5_ship_61 ?_
      exact hend ((M 1 (p1).toNatClampNeg), M) H locs _ _ hf hP hS dX5_ship_62
    · replace hf := if_f c_3 hf
      by_cases c_5 : p2 = 1
      · replace hf := if_t c_5 hf
        refine lv_tableIn (off := 48) (tgt := 63) hx hb dX5_ship_15 (by rw [c_5]; decide +kernel) (by rw [c_5]; decide +kernel) (by rw [c_5]; decide +kernel) (by decide) ?_
        refine lv_aload_n hx hb dX5_ship_63 rfl (lv_at hl 0 rfl) ?_
        refine va_get (D := D) (ci := 5) (v := .ref (A 3)) (C := RX5) (T := TX5) (N := 27) hx hb hts hw5 hown hK hP 0 cM_at0 rfl 2 (by decide) k16 (fun _ h9 => h9) rfl dX5_ship_64 ?_
        refine lv_iload_n hx hb dX5_ship_67 rfl (lv_at hl 1 rfl) ?_
        obtain ⟨c_6, hf⟩ := gi_e hf
        refine va_iald hx hb hK hP 3 0 cM_at3 rfl c_6 dX5_ship_68 ?_
        exact hend ((M 2 (p1).toNatClampNeg), M) H locs _ _ hf hP hS dX5_ship_69
      · replace hf := if_f c_5 hf
        by_cases c_7 : p2 = 2
        · replace hf := if_t c_7 hf
          refine lv_tableIn (off := 55) (tgt := 70) hx hb dX5_ship_15 (by rw [c_7]; decide +kernel) (by rw [c_7]; decide +kernel) (by rw [c_7]; decide +kernel) (by decide) ?_
          refine lv_aload_n hx hb dX5_ship_70 rfl (lv_at hl 0 rfl) ?_
          refine va_get (D := D) (ci := 5) (v := .ref (A 4)) (C := RX5) (T := TX5) (N := 27) hx hb hts hw5 hown hK hP 0 cM_at0 rfl 3 (by decide) k19 (fun _ h9 => h9) rfl dX5_ship_71 ?_
          refine lv_iload_n hx hb dX5_ship_74 rfl (lv_at hl 1 rfl) ?_
          obtain ⟨c_8, hf⟩ := gi_e hf
          refine va_iald hx hb hK hP 4 0 cM_at4 rfl c_8 dX5_ship_75 ?_
          exact hend ((M 3 (p1).toNatClampNeg), M) H locs _ _ hf hP hS dX5_ship_76
        · replace hf := if_f c_7 hf
          by_cases c_9 : p2 = 3
          · replace hf := if_t c_9 hf
            refine lv_tableIn (off := 62) (tgt := 77) hx hb dX5_ship_15 (by rw [c_9]; decide +kernel) (by rw [c_9]; decide +kernel) (by rw [c_9]; decide +kernel) (by decide) ?_
            refine lv_aload_n hx hb dX5_ship_77 rfl (lv_at hl 0 rfl) ?_
            refine lv_iload_n hx hb dX5_ship_78 rfl (lv_at hl 1 rfl) ?_
            obtain ⟨a_10, ha_10, hf⟩ := bd_e hf
            refine Ct.callV (As := [.int p1]) (rest := []) (st1 := [.int a_10]) (c_X5_holds l D cI A M p1 a_10 ha_10) hx hb hml hown hts (cwV 1 hts gX5_ship_X5_holds rfl rfl rfl hd_X5_holds ⟨Nat.le_of_ble_eq_true rfl, Nat.le_of_ble_eq_true rfl⟩) (va_recv hK hP (ci := 5) (q0 := 0) rfl cM_at0) (Ln.id rfl) hA hK hP hD hS rfl hl.1 rfl rfl (Nat.le_of_ble_eq_true rfl) dX5_ship_79 (fun H locs hP hD hS => ?_)
            exact hend (a_10, M) H locs _ _ hf hP hS dX5_ship_82
          · replace hf := if_f c_9 hf
            by_cases c_11 : p2 = 4
            · replace hf := if_t c_11 hf
              refine lv_tableIn (off := 68) (tgt := 83) hx hb dX5_ship_15 (by rw [c_11]; decide +kernel) (by rw [c_11]; decide +kernel) (by rw [c_11]; decide +kernel) (by decide) ?_
              refine lv_aload_n hx hb dX5_ship_83 rfl (lv_at hl 0 rfl) ?_
              refine lv_iload_n hx hb dX5_ship_84 rfl (lv_at hl 1 rfl) ?_
              obtain ⟨a_12, ha_12, hf⟩ := bd_e hf
              refine Ct.callV (As := [.int p1]) (rest := []) (st1 := [.int a_12]) (c_X5_lacks l D cI A M p1 a_12 ha_12) hx hb hml hown hts (cwV 1 hts gX5_ship_X5_lacks rfl rfl rfl hd_X5_lacks ⟨Nat.le_of_ble_eq_true rfl, Nat.le_of_ble_eq_true rfl⟩) (va_recv hK hP (ci := 5) (q0 := 0) rfl cM_at0) (Ln.id rfl) hA hK hP hD hS rfl hl.1 rfl rfl (Nat.le_of_ble_eq_true rfl) dX5_ship_85 (fun H locs hP hD hS => ?_)
              exact hend (a_12, M) H locs _ _ hf hP hS dX5_ship_88
            · replace hf := if_f c_11 hf
              by_cases c_13 : p2 = 5
              · replace hf := if_t c_13 hf
                refine lv_tableIn (off := 74) (tgt := 89) hx hb dX5_ship_15 (by rw [c_13]; decide +kernel) (by rw [c_13]; decide +kernel) (by rw [c_13]; decide +kernel) (by decide) ?_
                refine lv_aload_n hx hb dX5_ship_89 rfl (lv_at hl 0 rfl) ?_
                refine lv_iload_n hx hb dX5_ship_90 rfl (lv_at hl 1 rfl) ?_
                obtain ⟨a_14, ha_14, hf⟩ := bd_e hf
                refine Ct.callV (As := [.int p1]) (rest := []) (st1 := [.int a_14]) (c_X5_pool l D cI A M p1 a_14 ha_14) hx hb hml hown hts (cwV 1 hts gX5_ship_X5_pool rfl rfl rfl hd_X5_pool ⟨Nat.le_of_ble_eq_true rfl, Nat.le_of_ble_eq_true rfl⟩) (va_recv hK hP (ci := 5) (q0 := 0) rfl cM_at0) (Ln.id rfl) hA hK hP hD hS rfl hl.1 rfl rfl (Nat.le_of_ble_eq_true rfl) dX5_ship_91 (fun H locs hP hD hS => ?_)
                exact hend (a_14, M) H locs _ _ hf hP hS dX5_ship_94
              · replace hf := if_f c_13 hf
                by_cases c_15 : p2 = 6
                · replace hf := if_t c_15 hf
                  refine lv_tableIn (off := 80) (tgt := 95) hx hb dX5_ship_15 (by rw [c_15]; decide +kernel) (by rw [c_15]; decide +kernel) (by rw [c_15]; decide +kernel) (by decide) ?_
                  refine lv_aload_n hx hb dX5_ship_95 rfl (lv_at hl 0 rfl) ?_
                  refine lv_iload_n hx hb dX5_ship_96 rfl (lv_at hl 1 rfl) ?_
                  obtain ⟨a_16, ha_16, hf⟩ := bd_e hf
                  refine Ct.callV (As := [.int p1]) (rest := []) (st1 := [.int a_16]) (c_X5_crew l D cI A M p1 a_16 ha_16) hx hb hml hown hts (cwV 1 hts gX5_ship_X5_crew rfl rfl rfl hd_X5_crew ⟨Nat.le_of_ble_eq_true rfl, Nat.le_of_ble_eq_true rfl⟩) (va_recv hK hP (ci := 5) (q0 := 0) rfl cM_at0) (Ln.id rfl) hA hK hP hD hS rfl hl.1 rfl rfl (Nat.le_of_ble_eq_true rfl) dX5_ship_97 (fun H locs hP hD hS => ?_)
                  exact hend (a_16, M) H locs _ _ hf hP hS dX5_ship_100
                · replace hf := if_f c_15 hf
                  have ht : (p2).toInt < 0 ∨ 6 < (p2).toInt := by
                    have t0 := lv_neT (a := 0) c_3 (by decide +kernel)
                    have t1 := lv_neT (a := 1) c_5 (by decide +kernel)
                    have t2 := lv_neT (a := 2) c_7 (by decide +kernel)
                    have t3 := lv_neT (a := 3) c_9 (by decide +kernel)
                    have t4 := lv_neT (a := 4) c_11 (by decide +kernel)
                    have t5 := lv_neT (a := 5) c_13 (by decide +kernel)
                    have t6 := lv_neT (a := 6) c_15 (by decide +kernel)
                    omega
                  refine lv_tableOut (tgt := 101) hx hb dX5_ship_15 ht (by decide) ?_
                  refine lv_aload_n hx hb dX5_ship_101 rfl (lv_at hl 0 rfl) ?_
                  refine lv_bipush (v := -2) hx hb dX5_ship_102 (by decide +kernel) ?_
                  obtain ⟨a_17, ha_17, hf⟩ := bd_e hf
                  refine Ct.callV (As := [.int (-2 : Int32)]) (rest := []) (st1 := [.int a_17.1]) (c_X5_no l D cI A M (-2 : Int32) a_17 ha_17) hx hb hml hown hts (cwV 1 hts gX5_ship_X5_no rfl rfl rfl hd_X5_no ⟨Nat.le_of_ble_eq_true rfl, Nat.le_of_ble_eq_true rfl⟩) (va_recv hK hP (ci := 5) (q0 := 0) rfl cM_at0) (Ln.id rfl) hA hK hP hD hS rfl hl.1 rfl rfl (Nat.le_of_ble_eq_true rfl) dX5_ship_104 (fun H locs hP hD hS => ?_)
                  replace hP : va_P D vwCl (cM cI A a_17.2) H := hP
                  replace hD : va_D AA (cM cI A a_17.2) := hD
                  exact hend (a_17.1, a_17.2) H locs _ _ hf hP hS dX5_ship_107
  · replace hf := if_t c_2 hf
    refine lv_aload_n hx hb dX5_ship_8 rfl (lv_at hl 0 rfl) ?_
    refine lv_iconst (v := -1) hx hb dX5_ship_9 (by decide) ?_
    obtain ⟨a_18, ha_18, hf⟩ := bd_e hf
    refine Ct.callV (As := [.int (-1 : Int32)]) (rest := []) (st1 := [.int a_18.1]) (c_X5_no l D cI A M (-1 : Int32) a_18 ha_18) hx hb hml hown hts (cwV 1 hts gX5_ship_X5_no rfl rfl rfl hd_X5_no ⟨Nat.le_of_ble_eq_true rfl, Nat.le_of_ble_eq_true rfl⟩) (va_recv hK hP (ci := 5) (q0 := 0) rfl cM_at0) (Ln.id rfl) hA hK hP hD hS rfl hl.1 rfl rfl (Nat.le_of_ble_eq_true rfl) dX5_ship_10 (fun H locs hP hD hS => ?_)
    replace hP : va_P D vwCl (cM cI A a_18.2) H := hP
    replace hD : va_D AA (cM cI A a_18.2) := hD
    exact hend (a_18.1, a_18.2) H locs _ _ hf hP hS dX5_ship_13

def f_X5_man (M : St) (p1 : Int32) (p2 : Int32) : Option (Int32 × St) := (bd (f_X5_isMan M p1) fun a_1 => (if a_1 = 0 then (bd (f_X5_no M (-1 : Int32)) fun a_19 => (some (a_19.1, a_19.2))) else (if p2 = 0 then (gi p1 8 (some ((M 4 (p1).toNatClampNeg), M))) else (if p2 = 1 then (gi p1 8 (some ((M 5 (p1).toNatClampNeg), M))) else (if p2 = 2 then (gi p1 8 (some ((M 6 (p1).toNatClampNeg), M))) else (if p2 = 3 then (gi p1 8 (some ((M 7 (p1).toNatClampNeg), M))) else (if p2 = 4 then (bd (f_X5_worth M p1) fun a_12 => (some (a_12, M))) else (if p2 = 5 then (bd (f_X5_heardOf M p1) fun a_14 => (some (a_14, M))) else (if p2 = 6 then (bd (f_X5_canTell M p1) fun a_16 => (if a_16 = 0 then (some ((0 : Int32), M)) else (some ((1 : Int32), M)))) else (bd (f_X5_no M (-2 : Int32)) fun a_18 => (some (a_18.1, a_18.2))))))))))))
def rm_X5_man : Room := { frames := 3, cells := 0, slots := 0, locals := 66 }
theorem hd_X5_man : yX5_man.cls = RX5 ∧ yX5_man.cls ≠ "java/lang/invoke/MethodHandle" ∧ yX5_man.cls ≠ "java/lang/invoke/VarHandle" ∧ (parseMethodDescriptor yX5_man.desc).map (fun d => d.parameters.length) = some 2 := by decide +kernel
set_option maxRecDepth 100000 in
set_option maxHeartbeats 4000000 in
theorem c_X5_man (l : Launch) (D : va_G) (cI : ClassId) (A : Nat → Nat) (M : St) (p1 : Int32) (p2 : Int32) (r : Int32 × St) (hf : f_X5_man M p1 p2 = some r) : Ct l yX5_man wsX5_man rm_X5_man D cI (cM cI A M) (cM cI A r.2) [.ref (A 0), .int p1, .int p2] (some (.int r.1)) := by
  unfold f_X5_man at hf
  refine Ct.ofI (cc := cX5_man) (maxL := 3) (by decide +kernel) rfl (Nat.le_of_ble_eq_true rfl) ?_
  intro p e s m args below meth c AA Q H locs ls hx hb hml hown hts hA hK hP hD hS hl hend0
  have hend : ∀ (r1 : Int32 × St) (H : Heap) (locs : List Loc) (pc : Nat) (ls : Array Slot), some r1 = some r → va_P D vwCl (cM cI A r1.2) H → va_S AA s.heap H locs → decode cX5_man pc = .ok (.ireturn, 1) → W p l e rm_X5_man s m args below meth c H locs 0 0 Q (F0 m pc ls [.int r1.1]) := by
    intro r1 H locs pc ls e1 hP hS hd; cases e1; exact hend0 H locs pc ls hP hS hd
  clear hend0
  have hw5 : ∀ w ∈ wsX50, w ∈ wsX5_man := by decide +kernel
  have k22 := hts (.fieldLink RX5 22 "AnchorsForConfessionModel" "kind" "[I") (by decide +kernel)
  have k25 := hts (.fieldLink RX5 25 "AnchorsForConfessionModel" "figure" "[I") (by decide +kernel)
  have k28 := hts (.fieldLink RX5 28 "AnchorsForConfessionModel" "sins" "[I") (by decide +kernel)
  have k31 := hts (.fieldLink RX5 31 "AnchorsForConfessionModel" "aboard" "[I") (by decide +kernel)
  replace hl : lv_has ls 3 [(0, .ref (A 0)), (1, .int p1), (2, .int p2)] := hl
  refine lv_aload_n hx hb dX5_man_0 rfl (lv_at hl 0 rfl) ?_
  refine lv_iload_n hx hb dX5_man_1 rfl (lv_at hl 1 rfl) ?_
  obtain ⟨a_1, ha_1, hf⟩ := bd_e hf
  refine Ct.callV (As := [.int p1]) (rest := []) (st1 := [.int a_1]) (c_X5_isMan l D cI A M p1 a_1 ha_1) hx hb hml hown hts (cwV 1 hts gX5_man_X5_isMan rfl rfl rfl hd_X5_isMan ⟨Nat.le_of_ble_eq_true rfl, Nat.le_of_ble_eq_true rfl⟩) (va_recv hK hP (ci := 5) (q0 := 0) rfl cM_at0) (Ln.id rfl) hA hK hP hD hS rfl hl.1 rfl rfl (Nat.le_of_ble_eq_true rfl) dX5_man_2 (fun H locs hP hD hS => ?_)
  refine lv_if_ne (tgt := 14) hx hb dX5_man_5 (by decide) (fun c_2 => ?_) (fun c_2 => ?_)
  · replace hf := if_f c_2 hf
    refine lv_iload_n hx hb dX5_man_14 rfl (lv_at hl 2 rfl) ?_
    by_cases c_3 : p2 = 0
    · replace hf := if_t c_3 hf
      refine lv_tableIn (off := 41) (tgt := 56) hx hb dX5_man_15 (by rw [c_3]; decide +kernel) (by rw [c_3]; decide +kernel) (by rw [c_3]; decide +kernel) (by decide) ?_
      refine lv_aload_n hx hb dX5_man_56 rfl (lv_at hl 0 rfl) ?_
      refine va_get (D := D) (ci := 5) (v := .ref (A 5)) (C := RX5) (T := TX5) (N := 27) hx hb hts hw5 hown hK hP 0 cM_at0 rfl 4 (by decide) k22 (fun _ h9 => h9) rfl dX5_man_57 ?_
      refine lv_iload_n hx hb dX5_man_60 rfl (lv_at hl 1 rfl) ?_
      obtain ⟨c_4, hf⟩ := gi_e hf
      refine va_iald hx hb hK hP 5 0 cM_at5 rfl c_4 dX5_man_61 ?_
      exact hend ((M 4 (p1).toNatClampNeg), M) H locs _ _ hf hP hS dX5_man_62
    · replace hf := if_f c_3 hf
      by_cases c_5 : p2 = 1
      · replace hf := if_t c_5 hf
        refine lv_tableIn (off := 48) (tgt := 63) hx hb dX5_man_15 (by rw [c_5]; decide +kernel) (by rw [c_5]; decide +kernel) (by rw [c_5]; decide +kernel) (by decide) ?_
        refine lv_aload_n hx hb dX5_man_63 rfl (lv_at hl 0 rfl) ?_
        refine va_get (D := D) (ci := 5) (v := .ref (A 6)) (C := RX5) (T := TX5) (N := 27) hx hb hts hw5 hown hK hP 0 cM_at0 rfl 5 (by decide) k25 (fun _ h9 => h9) rfl dX5_man_64 ?_
        refine lv_iload_n hx hb dX5_man_67 rfl (lv_at hl 1 rfl) ?_
        obtain ⟨c_6, hf⟩ := gi_e hf
        refine va_iald hx hb hK hP 6 0 cM_at6 rfl c_6 dX5_man_68 ?_
        exact hend ((M 5 (p1).toNatClampNeg), M) H locs _ _ hf hP hS dX5_man_69
      · replace hf := if_f c_5 hf
        by_cases c_7 : p2 = 2
        · replace hf := if_t c_7 hf
          refine lv_tableIn (off := 55) (tgt := 70) hx hb dX5_man_15 (by rw [c_7]; decide +kernel) (by rw [c_7]; decide +kernel) (by rw [c_7]; decide +kernel) (by decide) ?_
          refine lv_aload_n hx hb dX5_man_70 rfl (lv_at hl 0 rfl) ?_
          refine va_get (D := D) (ci := 5) (v := .ref (A 7)) (C := RX5) (T := TX5) (N := 27) hx hb hts hw5 hown hK hP 0 cM_at0 rfl 6 (by decide) k28 (fun _ h9 => h9) rfl dX5_man_71 ?_
          refine lv_iload_n hx hb dX5_man_74 rfl (lv_at hl 1 rfl) ?_
          obtain ⟨c_8, hf⟩ := gi_e hf
          refine va_iald hx hb hK hP 7 0 cM_at7 rfl c_8 dX5_man_75 ?_
          exact hend ((M 6 (p1).toNatClampNeg), M) H locs _ _ hf hP hS dX5_man_76
        · replace hf := if_f c_7 hf
          by_cases c_9 : p2 = 3
          · replace hf := if_t c_9 hf
            refine lv_tableIn (off := 62) (tgt := 77) hx hb dX5_man_15 (by rw [c_9]; decide +kernel) (by rw [c_9]; decide +kernel) (by rw [c_9]; decide +kernel) (by decide) ?_
            refine lv_aload_n hx hb dX5_man_77 rfl (lv_at hl 0 rfl) ?_
            refine va_get (D := D) (ci := 5) (v := .ref (A 8)) (C := RX5) (T := TX5) (N := 27) hx hb hts hw5 hown hK hP 0 cM_at0 rfl 7 (by decide) k31 (fun _ h9 => h9) rfl dX5_man_78 ?_
            refine lv_iload_n hx hb dX5_man_81 rfl (lv_at hl 1 rfl) ?_
            obtain ⟨c_10, hf⟩ := gi_e hf
            refine va_iald hx hb hK hP 8 0 cM_at8 rfl c_10 dX5_man_82 ?_
            exact hend ((M 7 (p1).toNatClampNeg), M) H locs _ _ hf hP hS dX5_man_83
          · replace hf := if_f c_9 hf
            by_cases c_11 : p2 = 4
            · replace hf := if_t c_11 hf
              refine lv_tableIn (off := 69) (tgt := 84) hx hb dX5_man_15 (by rw [c_11]; decide +kernel) (by rw [c_11]; decide +kernel) (by rw [c_11]; decide +kernel) (by decide) ?_
              refine lv_aload_n hx hb dX5_man_84 rfl (lv_at hl 0 rfl) ?_
              refine lv_iload_n hx hb dX5_man_85 rfl (lv_at hl 1 rfl) ?_
              obtain ⟨a_12, ha_12, hf⟩ := bd_e hf
              refine Ct.callV (As := [.int p1]) (rest := []) (st1 := [.int a_12]) (c_X5_worth l D cI A M p1 a_12 ha_12) hx hb hml hown hts (cwV 1 hts gX5_man_X5_worth rfl rfl rfl hd_X5_worth ⟨Nat.le_of_ble_eq_true rfl, Nat.le_of_ble_eq_true rfl⟩) (va_recv hK hP (ci := 5) (q0 := 0) rfl cM_at0) (Ln.id rfl) hA hK hP hD hS rfl hl.1 rfl rfl (Nat.le_of_ble_eq_true rfl) dX5_man_86 (fun H locs hP hD hS => ?_)
              exact hend (a_12, M) H locs _ _ hf hP hS dX5_man_89
            · replace hf := if_f c_11 hf
              by_cases c_13 : p2 = 5
              · replace hf := if_t c_13 hf
                refine lv_tableIn (off := 75) (tgt := 90) hx hb dX5_man_15 (by rw [c_13]; decide +kernel) (by rw [c_13]; decide +kernel) (by rw [c_13]; decide +kernel) (by decide) ?_
                refine lv_aload_n hx hb dX5_man_90 rfl (lv_at hl 0 rfl) ?_
                refine lv_iload_n hx hb dX5_man_91 rfl (lv_at hl 1 rfl) ?_
                obtain ⟨a_14, ha_14, hf⟩ := bd_e hf
                refine Ct.callV (As := [.int p1]) (rest := []) (st1 := [.int a_14]) (c_X5_heardOf l D cI A M p1 a_14 ha_14) hx hb hml hown hts (cwV 1 hts gX5_man_X5_heardOf rfl rfl rfl hd_X5_heardOf ⟨Nat.le_of_ble_eq_true rfl, Nat.le_of_ble_eq_true rfl⟩) (va_recv hK hP (ci := 5) (q0 := 0) rfl cM_at0) (Ln.id rfl) hA hK hP hD hS rfl hl.1 rfl rfl (Nat.le_of_ble_eq_true rfl) dX5_man_92 (fun H locs hP hD hS => ?_)
                exact hend (a_14, M) H locs _ _ hf hP hS dX5_man_95
              · replace hf := if_f c_13 hf
                by_cases c_15 : p2 = 6
                · replace hf := if_t c_15 hf
                  refine lv_tableIn (off := 81) (tgt := 96) hx hb dX5_man_15 (by rw [c_15]; decide +kernel) (by rw [c_15]; decide +kernel) (by rw [c_15]; decide +kernel) (by decide) ?_
                  refine lv_aload_n hx hb dX5_man_96 rfl (lv_at hl 0 rfl) ?_
                  refine lv_iload_n hx hb dX5_man_97 rfl (lv_at hl 1 rfl) ?_
                  obtain ⟨a_16, ha_16, hf⟩ := bd_e hf
                  refine Ct.callV (As := [.int p1]) (rest := []) (st1 := [.int a_16]) (c_X5_canTell l D cI A M p1 a_16 ha_16) hx hb hml hown hts (cwV 1 hts gX5_man_X5_canTell rfl rfl rfl hd_X5_canTell ⟨Nat.le_of_ble_eq_true rfl, Nat.le_of_ble_eq_true rfl⟩) (va_recv hK hP (ci := 5) (q0 := 0) rfl cM_at0) (Ln.id rfl) hA hK hP hD hS rfl hl.1 rfl rfl (Nat.le_of_ble_eq_true rfl) dX5_man_98 (fun H locs hP hD hS => ?_)
                  refine lv_if_eq (tgt := 108) hx hb dX5_man_101 (by decide) (fun c_17 => ?_) (fun c_17 => ?_)
                  · replace hf := if_t c_17 hf
                    refine lv_iconst (v := 0) hx hb dX5_man_108 (by decide) ?_
                    exact hend ((0 : Int32), M) H locs _ _ hf hP hS dX5_man_109
                  · replace hf := if_f c_17 hf
                    refine lv_iconst (v := 1) hx hb dX5_man_104 (by decide) ?_
                    refine lv_goto (tgt := 109) hx hb dX5_man_105 (by decide) ?_
                    exact hend ((1 : Int32), M) H locs _ _ hf hP hS dX5_man_109
                · replace hf := if_f c_15 hf
                  have ht : (p2).toInt < 0 ∨ 6 < (p2).toInt := by
                    have t0 := lv_neT (a := 0) c_3 (by decide +kernel)
                    have t1 := lv_neT (a := 1) c_5 (by decide +kernel)
                    have t2 := lv_neT (a := 2) c_7 (by decide +kernel)
                    have t3 := lv_neT (a := 3) c_9 (by decide +kernel)
                    have t4 := lv_neT (a := 4) c_11 (by decide +kernel)
                    have t5 := lv_neT (a := 5) c_13 (by decide +kernel)
                    have t6 := lv_neT (a := 6) c_15 (by decide +kernel)
                    omega
                  refine lv_tableOut (tgt := 110) hx hb dX5_man_15 ht (by decide) ?_
                  refine lv_aload_n hx hb dX5_man_110 rfl (lv_at hl 0 rfl) ?_
                  refine lv_bipush (v := -2) hx hb dX5_man_111 (by decide +kernel) ?_
                  obtain ⟨a_18, ha_18, hf⟩ := bd_e hf
                  refine Ct.callV (As := [.int (-2 : Int32)]) (rest := []) (st1 := [.int a_18.1]) (c_X5_no l D cI A M (-2 : Int32) a_18 ha_18) hx hb hml hown hts (cwV 1 hts gX5_man_X5_no rfl rfl rfl hd_X5_no ⟨Nat.le_of_ble_eq_true rfl, Nat.le_of_ble_eq_true rfl⟩) (va_recv hK hP (ci := 5) (q0 := 0) rfl cM_at0) (Ln.id rfl) hA hK hP hD hS rfl hl.1 rfl rfl (Nat.le_of_ble_eq_true rfl) dX5_man_113 (fun H locs hP hD hS => ?_)
                  replace hP : va_P D vwCl (cM cI A a_18.2) H := hP
                  replace hD : va_D AA (cM cI A a_18.2) := hD
                  exact hend (a_18.1, a_18.2) H locs _ _ hf hP hS dX5_man_116
  · replace hf := if_t c_2 hf
    refine lv_aload_n hx hb dX5_man_8 rfl (lv_at hl 0 rfl) ?_
    refine lv_iconst (v := -1) hx hb dX5_man_9 (by decide) ?_
    obtain ⟨a_19, ha_19, hf⟩ := bd_e hf
    refine Ct.callV (As := [.int (-1 : Int32)]) (rest := []) (st1 := [.int a_19.1]) (c_X5_no l D cI A M (-1 : Int32) a_19 ha_19) hx hb hml hown hts (cwV 1 hts gX5_man_X5_no rfl rfl rfl hd_X5_no ⟨Nat.le_of_ble_eq_true rfl, Nat.le_of_ble_eq_true rfl⟩) (va_recv hK hP (ci := 5) (q0 := 0) rfl cM_at0) (Ln.id rfl) hA hK hP hD hS rfl hl.1 rfl rfl (Nat.le_of_ble_eq_true rfl) dX5_man_10 (fun H locs hP hD hS => ?_)
    replace hP : va_P D vwCl (cM cI A a_19.2) H := hP
    replace hD : va_D AA (cM cI A a_19.2) := hD
    exact hend (a_19.1, a_19.2) H locs _ _ hf hP hS dX5_man_13

def f_X5_tells (M : St) (p1 : Int32) : Option (Int32 × St) := (bd (f_X5_isMan M p1) fun a_1 => (if a_1 = 0 then (bd (f_X5_no M (-1 : Int32)) fun a_7 => (some (a_7.1, a_7.2))) else (bd (f_X5_canTell M p1) fun a_3 => (if a_3 = 0 then (bd (f_X5_no M (-3 : Int32)) fun a_6 => (some (a_6.1, a_6.2))) else (bd (f_X5_tellsOne M p1) fun a_5 => (some (a_5.1, a_5.2)))))))
def rm_X5_tells : Room := { frames := 4, cells := 0, slots := 0, locals := 88 }
theorem hd_X5_tells : yX5_tells.cls = RX5 ∧ yX5_tells.cls ≠ "java/lang/invoke/MethodHandle" ∧ yX5_tells.cls ≠ "java/lang/invoke/VarHandle" ∧ (parseMethodDescriptor yX5_tells.desc).map (fun d => d.parameters.length) = some 1 := by decide +kernel
set_option maxRecDepth 100000 in
set_option maxHeartbeats 4000000 in
theorem c_X5_tells (l : Launch) (D : va_G) (cI : ClassId) (A : Nat → Nat) (M : St) (p1 : Int32) (r : Int32 × St) (hf : f_X5_tells M p1 = some r) : Ct l yX5_tells wsX5_tells rm_X5_tells D cI (cM cI A M) (cM cI A r.2) [.ref (A 0), .int p1] (some (.int r.1)) := by
  unfold f_X5_tells at hf
  refine Ct.ofI (cc := cX5_tells) (maxL := 3) (by decide +kernel) rfl (Nat.le_of_ble_eq_true rfl) ?_
  intro p e s m args below meth c AA Q H locs ls hx hb hml hown hts hA hK hP hD hS hl hend0
  have hend : ∀ (r1 : Int32 × St) (H : Heap) (locs : List Loc) (pc : Nat) (ls : Array Slot), some r1 = some r → va_P D vwCl (cM cI A r1.2) H → va_S AA s.heap H locs → decode cX5_tells pc = .ok (.ireturn, 1) → W p l e rm_X5_tells s m args below meth c H locs 0 0 Q (F0 m pc ls [.int r1.1]) := by
    intro r1 H locs pc ls e1 hP hS hd; cases e1; exact hend0 H locs pc ls hP hS hd
  clear hend0
  replace hl : lv_has ls 3 [(0, .ref (A 0)), (1, .int p1)] := hl
  refine lv_aload_n hx hb dX5_tells_0 rfl (lv_at hl 0 rfl) ?_
  refine lv_iload_n hx hb dX5_tells_1 rfl (lv_at hl 1 rfl) ?_
  obtain ⟨a_1, ha_1, hf⟩ := bd_e hf
  refine Ct.callV (As := [.int p1]) (rest := []) (st1 := [.int a_1]) (c_X5_isMan l D cI A M p1 a_1 ha_1) hx hb hml hown hts (cwV 1 hts gX5_tells_X5_isMan rfl rfl rfl hd_X5_isMan ⟨Nat.le_of_ble_eq_true rfl, Nat.le_of_ble_eq_true rfl⟩) (va_recv hK hP (ci := 5) (q0 := 0) rfl cM_at0) (Ln.id rfl) hA hK hP hD hS rfl hl.1 rfl rfl (Nat.le_of_ble_eq_true rfl) dX5_tells_2 (fun H locs hP hD hS => ?_)
  refine lv_if_ne (tgt := 12) hx hb dX5_tells_5 (by decide) (fun c_2 => ?_) (fun c_2 => ?_)
  · replace hf := if_f c_2 hf
    refine lv_aload_n hx hb dX5_tells_12 rfl (lv_at hl 0 rfl) ?_
    refine lv_iload_n hx hb dX5_tells_13 rfl (lv_at hl 1 rfl) ?_
    obtain ⟨a_3, ha_3, hf⟩ := bd_e hf
    refine Ct.callV (As := [.int p1]) (rest := []) (st1 := [.int a_3]) (c_X5_canTell l D cI A M p1 a_3 ha_3) hx hb hml hown hts (cwV 1 hts gX5_tells_X5_canTell rfl rfl rfl hd_X5_canTell ⟨Nat.le_of_ble_eq_true rfl, Nat.le_of_ble_eq_true rfl⟩) (va_recv hK hP (ci := 5) (q0 := 0) rfl cM_at0) (Ln.id rfl) hA hK hP hD hS rfl hl.1 rfl rfl (Nat.le_of_ble_eq_true rfl) dX5_tells_14 (fun H locs hP hD hS => ?_)
    refine lv_if_ne (tgt := 25) hx hb dX5_tells_17 (by decide) (fun c_4 => ?_) (fun c_4 => ?_)
    · replace hf := if_f c_4 hf
      refine lv_iconst (v := 0) hx hb dX5_tells_25 (by decide) ?_
      refine lv_istore_n (lv' := [(2, .int (0 : Int32)), (0, .ref (A 0)), (1, .int p1)]) hx hb dX5_tells_26 rfl hl (by decide) rfl (fun ls hl => ?_)
      refine lv_iload_n hx hb dX5_tells_27 rfl (lv_at hl 0 rfl) ?_
      refine lv_if_eq (tgt := 39) hx hb dX5_tells_28 (by decide) (fun _ => ?_) (fun c0 => absurd c0 (by decide))
      refine lv_aload_n hx hb dX5_tells_39 rfl (lv_at hl 1 rfl) ?_
      refine lv_iload_n hx hb dX5_tells_40 rfl (lv_at hl 2 rfl) ?_
      obtain ⟨a_5, ha_5, hf⟩ := bd_e hf
      refine Ct.callV (As := [.int p1]) (rest := []) (st1 := [.int a_5.1]) (c_X5_tellsOne l D cI A M p1 a_5 ha_5) hx hb hml hown hts (cwV 1 hts gX5_tells_X5_tellsOne rfl rfl rfl hd_X5_tellsOne ⟨Nat.le_of_ble_eq_true rfl, Nat.le_of_ble_eq_true rfl⟩) (va_recv hK hP (ci := 5) (q0 := 0) rfl cM_at0) (Ln.id rfl) hA hK hP hD hS rfl hl.1 rfl rfl (Nat.le_of_ble_eq_true rfl) dX5_tells_41 (fun H locs hP hD hS => ?_)
      replace hP : va_P D vwCl (cM cI A a_5.2) H := hP
      replace hD : va_D AA (cM cI A a_5.2) := hD
      exact hend (a_5.1, a_5.2) H locs _ _ hf hP hS dX5_tells_44
    · replace hf := if_t c_4 hf
      refine lv_bipush (v := -3) hx hb dX5_tells_20 (by decide +kernel) ?_
      refine lv_goto (tgt := 26) hx hb dX5_tells_22 (by decide) ?_
      refine lv_istore_n (lv' := [(2, .int (-3 : Int32)), (0, .ref (A 0)), (1, .int p1)]) hx hb dX5_tells_26 rfl hl (by decide) rfl (fun ls hl => ?_)
      refine lv_iload_n hx hb dX5_tells_27 rfl (lv_at hl 0 rfl) ?_
      refine lv_if_eq (tgt := 39) hx hb dX5_tells_28 (by decide) (fun c0 => absurd c0 (by decide)) (fun _ => ?_)
      refine lv_aload_n hx hb dX5_tells_31 rfl (lv_at hl 1 rfl) ?_
      refine lv_iload_n hx hb dX5_tells_32 rfl (lv_at hl 0 rfl) ?_
      obtain ⟨a_6, ha_6, hf⟩ := bd_e hf
      refine Ct.callV (As := [.int (-3 : Int32)]) (rest := []) (st1 := [.int a_6.1]) (c_X5_no l D cI A M (-3 : Int32) a_6 ha_6) hx hb hml hown hts (cwV 1 hts gX5_tells_X5_no rfl rfl rfl hd_X5_no ⟨Nat.le_of_ble_eq_true rfl, Nat.le_of_ble_eq_true rfl⟩) (va_recv hK hP (ci := 5) (q0 := 0) rfl cM_at0) (Ln.id rfl) hA hK hP hD hS rfl hl.1 rfl rfl (Nat.le_of_ble_eq_true rfl) dX5_tells_33 (fun H locs hP hD hS => ?_)
      replace hP : va_P D vwCl (cM cI A a_6.2) H := hP
      replace hD : va_D AA (cM cI A a_6.2) := hD
      refine lv_goto (tgt := 44) hx hb dX5_tells_36 (by decide) ?_
      exact hend (a_6.1, a_6.2) H locs _ _ hf hP hS dX5_tells_44
  · replace hf := if_t c_2 hf
    refine lv_iconst (v := -1) hx hb dX5_tells_8 (by decide) ?_
    refine lv_goto (tgt := 26) hx hb dX5_tells_9 (by decide) ?_
    refine lv_istore_n (lv' := [(2, .int (-1 : Int32)), (0, .ref (A 0)), (1, .int p1)]) hx hb dX5_tells_26 rfl hl (by decide) rfl (fun ls hl => ?_)
    refine lv_iload_n hx hb dX5_tells_27 rfl (lv_at hl 0 rfl) ?_
    refine lv_if_eq (tgt := 39) hx hb dX5_tells_28 (by decide) (fun c0 => absurd c0 (by decide)) (fun _ => ?_)
    refine lv_aload_n hx hb dX5_tells_31 rfl (lv_at hl 1 rfl) ?_
    refine lv_iload_n hx hb dX5_tells_32 rfl (lv_at hl 0 rfl) ?_
    obtain ⟨a_7, ha_7, hf⟩ := bd_e hf
    refine Ct.callV (As := [.int (-1 : Int32)]) (rest := []) (st1 := [.int a_7.1]) (c_X5_no l D cI A M (-1 : Int32) a_7 ha_7) hx hb hml hown hts (cwV 1 hts gX5_tells_X5_no rfl rfl rfl hd_X5_no ⟨Nat.le_of_ble_eq_true rfl, Nat.le_of_ble_eq_true rfl⟩) (va_recv hK hP (ci := 5) (q0 := 0) rfl cM_at0) (Ln.id rfl) hA hK hP hD hS rfl hl.1 rfl rfl (Nat.le_of_ble_eq_true rfl) dX5_tells_33 (fun H locs hP hD hS => ?_)
    replace hP : va_P D vwCl (cM cI A a_7.2) H := hP
    replace hD : va_D AA (cM cI A a_7.2) := hD
    refine lv_goto (tgt := 44) hx hb dX5_tells_36 (by decide) ?_
    exact hend (a_7.1, a_7.2) H locs _ _ hf hP hS dX5_tells_44

def f_X5_boards (M : St) (p1 : Int32) (p2 : Int32) : Option (Int32 × St) := (bd (f_X5_isMan M p1) fun a_1 => (if a_1 = 0 then (bd (f_X5_no M (-1 : Int32)) fun a_3 => (some (a_3.1, a_3.2))) else (bd (f_X5_isShip M p2) fun a_4 => (if a_4 = 0 then (bd (f_X5_no M (-1 : Int32)) fun a_10 => (some (a_10.1, a_10.2))) else (gi p1 8 (nm (M 7 (p1).toNatClampNeg) fun v_7 => (gi p1 8 (nm (su M 7 (p1).toNatClampNeg p2) fun h_9 => (some (v_7, h_9))))))))))
def rm_X5_boards : Room := { frames := 1, cells := 0, slots := 0, locals := 21 }
theorem hd_X5_boards : yX5_boards.cls = RX5 ∧ yX5_boards.cls ≠ "java/lang/invoke/MethodHandle" ∧ yX5_boards.cls ≠ "java/lang/invoke/VarHandle" ∧ (parseMethodDescriptor yX5_boards.desc).map (fun d => d.parameters.length) = some 2 := by decide +kernel
set_option maxRecDepth 100000 in
set_option maxHeartbeats 4000000 in
theorem c_X5_boards (l : Launch) (D : va_G) (cI : ClassId) (A : Nat → Nat) (M : St) (p1 : Int32) (p2 : Int32) (r : Int32 × St) (hf : f_X5_boards M p1 p2 = some r) : Ct l yX5_boards wsX5_boards rm_X5_boards D cI (cM cI A M) (cM cI A r.2) [.ref (A 0), .int p1, .int p2] (some (.int r.1)) := by
  unfold f_X5_boards at hf
  refine Ct.ofI (cc := cX5_boards) (maxL := 4) (by decide +kernel) rfl (Nat.le_of_ble_eq_true rfl) ?_
  intro p e s m args below meth c AA Q H locs ls hx hb hml hown hts hA hK hP hD hS hl hend0
  have hend : ∀ (r1 : Int32 × St) (H : Heap) (locs : List Loc) (pc : Nat) (ls : Array Slot), some r1 = some r → va_P D vwCl (cM cI A r1.2) H → va_S AA s.heap H locs → decode cX5_boards pc = .ok (.ireturn, 1) → W p l e rm_X5_boards s m args below meth c H locs 0 0 Q (F0 m pc ls [.int r1.1]) := by
    intro r1 H locs pc ls e1 hP hS hd; cases e1; exact hend0 H locs pc ls hP hS hd
  clear hend0
  have hw5 : ∀ w ∈ wsX50, w ∈ wsX5_boards := by decide +kernel
  have k31 := hts (.fieldLink RX5 31 "AnchorsForConfessionModel" "aboard" "[I") (by decide +kernel)
  replace hl : lv_has ls 4 [(0, .ref (A 0)), (1, .int p1), (2, .int p2)] := hl
  refine lv_aload_n hx hb dX5_boards_0 rfl (lv_at hl 0 rfl) ?_
  refine lv_iload_n hx hb dX5_boards_1 rfl (lv_at hl 1 rfl) ?_
  obtain ⟨a_1, ha_1, hf⟩ := bd_e hf
  refine Ct.callV (As := [.int p1]) (rest := []) (st1 := [.int a_1]) (c_X5_isMan l D cI A M p1 a_1 ha_1) hx hb hml hown hts (cwV 1 hts gX5_boards_X5_isMan rfl rfl rfl hd_X5_isMan ⟨Nat.le_of_ble_eq_true rfl, Nat.le_of_ble_eq_true rfl⟩) (va_recv hK hP (ci := 5) (q0 := 0) rfl cM_at0) (Ln.id rfl) hA hK hP hD hS rfl hl.1 rfl rfl (Nat.le_of_ble_eq_true rfl) dX5_boards_2 (fun H locs hP hD hS => ?_)
  refine lv_if_eq (tgt := 16) hx hb dX5_boards_5 (by decide) (fun c_2 => ?_) (fun c_2 => ?_)
  · replace hf := if_t c_2 hf
    refine lv_aload_n hx hb dX5_boards_16 rfl (lv_at hl 0 rfl) ?_
    refine lv_iconst (v := -1) hx hb dX5_boards_17 (by decide) ?_
    obtain ⟨a_3, ha_3, hf⟩ := bd_e hf
    refine Ct.callV (As := [.int (-1 : Int32)]) (rest := []) (st1 := [.int a_3.1]) (c_X5_no l D cI A M (-1 : Int32) a_3 ha_3) hx hb hml hown hts (cwV 1 hts gX5_boards_X5_no rfl rfl rfl hd_X5_no ⟨Nat.le_of_ble_eq_true rfl, Nat.le_of_ble_eq_true rfl⟩) (va_recv hK hP (ci := 5) (q0 := 0) rfl cM_at0) (Ln.id rfl) hA hK hP hD hS rfl hl.1 rfl rfl (Nat.le_of_ble_eq_true rfl) dX5_boards_18 (fun H locs hP hD hS => ?_)
    replace hP : va_P D vwCl (cM cI A a_3.2) H := hP
    replace hD : va_D AA (cM cI A a_3.2) := hD
    exact hend (a_3.1, a_3.2) H locs _ _ hf hP hS dX5_boards_21
  · replace hf := if_f c_2 hf
    refine lv_aload_n hx hb dX5_boards_8 rfl (lv_at hl 0 rfl) ?_
    refine lv_iload_n hx hb dX5_boards_9 rfl (lv_at hl 2 rfl) ?_
    obtain ⟨a_4, ha_4, hf⟩ := bd_e hf
    refine Ct.callV (As := [.int p2]) (rest := []) (st1 := [.int a_4]) (c_X5_isShip l D cI A M p2 a_4 ha_4) hx hb hml hown hts (cwV 1 hts gX5_boards_X5_isShip rfl rfl rfl hd_X5_isShip ⟨Nat.le_of_ble_eq_true rfl, Nat.le_of_ble_eq_true rfl⟩) (va_recv hK hP (ci := 5) (q0 := 0) rfl cM_at0) (Ln.id rfl) hA hK hP hD hS rfl hl.1 rfl rfl (Nat.le_of_ble_eq_true rfl) dX5_boards_10 (fun H locs hP hD hS => ?_)
    refine lv_if_ne (tgt := 22) hx hb dX5_boards_13 (by decide) (fun c_5 => ?_) (fun c_5 => ?_)
    · replace hf := if_f c_5 hf
      refine lv_aload_n hx hb dX5_boards_22 rfl (lv_at hl 0 rfl) ?_
      refine va_get (D := D) (ci := 5) (v := .ref (A 8)) (C := RX5) (T := TX5) (N := 27) hx hb hts hw5 hown hK hP 0 cM_at0 rfl 7 (by decide) k31 (fun _ h9 => h9) rfl dX5_boards_23 ?_
      refine lv_iload_n hx hb dX5_boards_26 rfl (lv_at hl 1 rfl) ?_
      obtain ⟨c_6, hf⟩ := gi_e hf
      refine va_iald hx hb hK hP 8 0 cM_at8 rfl c_6 dX5_boards_27 ?_
      refine lv_topi (fun v_7 ev_7 => ?_)
      replace hf := nm_at ev_7 hf
      refine lv_istore_n (lv' := [(3, .int v_7), (0, .ref (A 0)), (1, .int p1), (2, .int p2)]) hx hb dX5_boards_28 rfl hl (by decide) rfl (fun ls hl => ?_)
      refine lv_aload_n hx hb dX5_boards_29 rfl (lv_at hl 1 rfl) ?_
      refine va_get (D := D) (ci := 5) (v := .ref (A 8)) (C := RX5) (T := TX5) (N := 27) hx hb hts hw5 hown hK hP 0 cM_at0 rfl 7 (by decide) k31 (fun _ h9 => h9) rfl dX5_boards_30 ?_
      refine lv_iload_n hx hb dX5_boards_33 rfl (lv_at hl 2 rfl) ?_
      refine lv_iload_n hx hb dX5_boards_34 rfl (lv_at hl 3 rfl) ?_
      obtain ⟨c_8, hf⟩ := gi_e hf
      refine va_iast hx hb hK hP hD hS 8 0 cM_at8 rfl c_8 dX5_boards_35 (fun H locs hP hD hS => ?_)
      obtain ⟨h_9, eh_9, hf⟩ := nm_e hf
      rw [cM_su8, ← eh_9] at hP hD
      refine lv_iload_n hx hb dX5_boards_36 rfl (lv_at hl 0 rfl) ?_
      exact hend (v_7, h_9) H locs _ _ hf hP hS dX5_boards_37
    · replace hf := if_t c_5 hf
      refine lv_aload_n hx hb dX5_boards_16 rfl (lv_at hl 0 rfl) ?_
      refine lv_iconst (v := -1) hx hb dX5_boards_17 (by decide) ?_
      obtain ⟨a_10, ha_10, hf⟩ := bd_e hf
      refine Ct.callV (As := [.int (-1 : Int32)]) (rest := []) (st1 := [.int a_10.1]) (c_X5_no l D cI A M (-1 : Int32) a_10 ha_10) hx hb hml hown hts (cwV 1 hts gX5_boards_X5_no rfl rfl rfl hd_X5_no ⟨Nat.le_of_ble_eq_true rfl, Nat.le_of_ble_eq_true rfl⟩) (va_recv hK hP (ci := 5) (q0 := 0) rfl cM_at0) (Ln.id rfl) hA hK hP hD hS rfl hl.1 rfl rfl (Nat.le_of_ble_eq_true rfl) dX5_boards_18 (fun H locs hP hD hS => ?_)
      replace hP : va_P D vwCl (cM cI A a_10.2) H := hP
      replace hD : va_D AA (cM cI A a_10.2) := hD
      exact hend (a_10.1, a_10.2) H locs _ _ hf hP hS dX5_boards_21

def f_X5_sins (M : St) (p1 : Int32) (p2 : Int32) : Option (Int32 × St) := (bd (f_X5_isMan M p1) fun a_1 => (if a_1 = 0 then (bd (f_X5_no M (-1 : Int32)) fun a_10 => (some (a_10.1, a_10.2))) else (bd (f_X5_bound p2 (0 : Int32) (9 : Int32)) fun a_3 => (if a_3 = 0 then (gi p1 8 (nm (M 6 (p1).toNatClampNeg) fun v_6 => (gi p1 8 (nm (su M 6 (p1).toNatClampNeg p2) fun h_8 => (some (v_6, h_8)))))) else (bd (f_X5_no M a_3) fun a_9 => (some (a_9.1, a_9.2)))))))
def rm_X5_sins : Room := { frames := 1, cells := 0, slots := 0, locals := 22 }
theorem hd_X5_sins : yX5_sins.cls = RX5 ∧ yX5_sins.cls ≠ "java/lang/invoke/MethodHandle" ∧ yX5_sins.cls ≠ "java/lang/invoke/VarHandle" ∧ (parseMethodDescriptor yX5_sins.desc).map (fun d => d.parameters.length) = some 2 := by decide +kernel
set_option maxRecDepth 100000 in
set_option maxHeartbeats 4000000 in
theorem c_X5_sins (l : Launch) (D : va_G) (cI : ClassId) (A : Nat → Nat) (M : St) (p1 : Int32) (p2 : Int32) (r : Int32 × St) (hf : f_X5_sins M p1 p2 = some r) : Ct l yX5_sins wsX5_sins rm_X5_sins D cI (cM cI A M) (cM cI A r.2) [.ref (A 0), .int p1, .int p2] (some (.int r.1)) := by
  unfold f_X5_sins at hf
  refine Ct.ofI (cc := cX5_sins) (maxL := 5) (by decide +kernel) rfl (Nat.le_of_ble_eq_true rfl) ?_
  intro p e s m args below meth c AA Q H locs ls hx hb hml hown hts hA hK hP hD hS hl hend0
  have hend : ∀ (r1 : Int32 × St) (H : Heap) (locs : List Loc) (pc : Nat) (ls : Array Slot), some r1 = some r → va_P D vwCl (cM cI A r1.2) H → va_S AA s.heap H locs → decode cX5_sins pc = .ok (.ireturn, 1) → W p l e rm_X5_sins s m args below meth c H locs 0 0 Q (F0 m pc ls [.int r1.1]) := by
    intro r1 H locs pc ls e1 hP hS hd; cases e1; exact hend0 H locs pc ls hP hS hd
  clear hend0
  have hw5 : ∀ w ∈ wsX50, w ∈ wsX5_sins := by decide +kernel
  have k28 := hts (.fieldLink RX5 28 "AnchorsForConfessionModel" "sins" "[I") (by decide +kernel)
  replace hl : lv_has ls 5 [(0, .ref (A 0)), (1, .int p1), (2, .int p2)] := hl
  refine lv_aload_n hx hb dX5_sins_0 rfl (lv_at hl 0 rfl) ?_
  refine lv_iload_n hx hb dX5_sins_1 rfl (lv_at hl 1 rfl) ?_
  obtain ⟨a_1, ha_1, hf⟩ := bd_e hf
  refine Ct.callV (As := [.int p1]) (rest := []) (st1 := [.int a_1]) (c_X5_isMan l D cI A M p1 a_1 ha_1) hx hb hml hown hts (cwV 1 hts gX5_sins_X5_isMan rfl rfl rfl hd_X5_isMan ⟨Nat.le_of_ble_eq_true rfl, Nat.le_of_ble_eq_true rfl⟩) (va_recv hK hP (ci := 5) (q0 := 0) rfl cM_at0) (Ln.id rfl) hA hK hP hD hS rfl hl.1 rfl rfl (Nat.le_of_ble_eq_true rfl) dX5_sins_2 (fun H locs hP hD hS => ?_)
  refine lv_if_ne (tgt := 12) hx hb dX5_sins_5 (by decide) (fun c_2 => ?_) (fun c_2 => ?_)
  · replace hf := if_f c_2 hf
    refine lv_iload_n hx hb dX5_sins_12 rfl (lv_at hl 2 rfl) ?_
    refine lv_iconst (v := 0) hx hb dX5_sins_13 (by decide) ?_
    refine lv_bipush (v := 9) hx hb dX5_sins_14 (by decide +kernel) ?_
    obtain ⟨a_3, ha_3, hf⟩ := bd_e hf
    refine Ct.callS (As := [.int p2, .int (0 : Int32), .int (9 : Int32)]) (rest := []) (st1 := [.int a_3]) (c_X5_bound l D cI  p2 (0 : Int32) (9 : Int32) a_3 ha_3) hx hb hml hown hts (va_cwS 3 hts gX5_sins_X5_bound rfl rfl rfl hd_X5_bound ⟨Nat.le_of_ble_eq_true rfl, Nat.le_of_ble_eq_true rfl⟩) Ln.nil hA hK hP hD hS rfl hl.1 rfl rfl (Nat.le_of_ble_eq_true rfl) dX5_sins_16 (fun H locs hP hD hS => ?_)
    refine lv_istore_n (lv' := [(3, .int a_3), (0, .ref (A 0)), (1, .int p1), (2, .int p2)]) hx hb dX5_sins_19 rfl hl (by decide) rfl (fun ls hl => ?_)
    refine lv_iload_n hx hb dX5_sins_20 rfl (lv_at hl 0 rfl) ?_
    refine lv_if_eq (tgt := 30) hx hb dX5_sins_21 (by decide) (fun c_4 => ?_) (fun c_4 => ?_)
    · replace hf := if_t c_4 hf
      refine lv_aload_n hx hb dX5_sins_30 rfl (lv_at hl 1 rfl) ?_
      refine va_get (D := D) (ci := 5) (v := .ref (A 7)) (C := RX5) (T := TX5) (N := 27) hx hb hts hw5 hown hK hP 0 cM_at0 rfl 6 (by decide) k28 (fun _ h9 => h9) rfl dX5_sins_31 ?_
      refine lv_iload_n hx hb dX5_sins_34 rfl (lv_at hl 2 rfl) ?_
      obtain ⟨c_5, hf⟩ := gi_e hf
      refine va_iald hx hb hK hP 7 0 cM_at7 rfl c_5 dX5_sins_35 ?_
      refine lv_topi (fun v_6 ev_6 => ?_)
      replace hf := nm_at ev_6 hf
      refine lv_istore (lv' := [(4, .int v_6), (3, .int a_3), (0, .ref (A 0)), (1, .int p1), (2, .int p2)]) hx hb dX5_sins_36 hl (by decide) rfl (fun ls hl => ?_)
      refine lv_aload_n hx hb dX5_sins_38 rfl (lv_at hl 2 rfl) ?_
      refine va_get (D := D) (ci := 5) (v := .ref (A 7)) (C := RX5) (T := TX5) (N := 27) hx hb hts hw5 hown hK hP 0 cM_at0 rfl 6 (by decide) k28 (fun _ h9 => h9) rfl dX5_sins_39 ?_
      refine lv_iload_n hx hb dX5_sins_42 rfl (lv_at hl 3 rfl) ?_
      refine lv_iload_n hx hb dX5_sins_43 rfl (lv_at hl 4 rfl) ?_
      obtain ⟨c_7, hf⟩ := gi_e hf
      refine va_iast hx hb hK hP hD hS 7 0 cM_at7 rfl c_7 dX5_sins_44 (fun H locs hP hD hS => ?_)
      obtain ⟨h_8, eh_8, hf⟩ := nm_e hf
      rw [cM_su7, ← eh_8] at hP hD
      refine lv_iload hx hb dX5_sins_45 (lv_at hl 0 rfl) ?_
      exact hend (v_6, h_8) H locs _ _ hf hP hS dX5_sins_47
    · replace hf := if_f c_4 hf
      refine lv_aload_n hx hb dX5_sins_24 rfl (lv_at hl 1 rfl) ?_
      refine lv_iload_n hx hb dX5_sins_25 rfl (lv_at hl 0 rfl) ?_
      obtain ⟨a_9, ha_9, hf⟩ := bd_e hf
      refine Ct.callV (As := [.int a_3]) (rest := []) (st1 := [.int a_9.1]) (c_X5_no l D cI A M a_3 a_9 ha_9) hx hb hml hown hts (cwV 1 hts gX5_sins_X5_no rfl rfl rfl hd_X5_no ⟨Nat.le_of_ble_eq_true rfl, Nat.le_of_ble_eq_true rfl⟩) (va_recv hK hP (ci := 5) (q0 := 0) rfl cM_at0) (Ln.id rfl) hA hK hP hD hS rfl hl.1 rfl rfl (Nat.le_of_ble_eq_true rfl) dX5_sins_26 (fun H locs hP hD hS => ?_)
      replace hP : va_P D vwCl (cM cI A a_9.2) H := hP
      replace hD : va_D AA (cM cI A a_9.2) := hD
      exact hend (a_9.1, a_9.2) H locs _ _ hf hP hS dX5_sins_29
  · replace hf := if_t c_2 hf
    refine lv_iconst (v := -1) hx hb dX5_sins_8 (by decide) ?_
    refine lv_goto (tgt := 19) hx hb dX5_sins_9 (by decide) ?_
    refine lv_istore_n (lv' := [(3, .int (-1 : Int32)), (0, .ref (A 0)), (1, .int p1), (2, .int p2)]) hx hb dX5_sins_19 rfl hl (by decide) rfl (fun ls hl => ?_)
    refine lv_iload_n hx hb dX5_sins_20 rfl (lv_at hl 0 rfl) ?_
    refine lv_if_eq (tgt := 30) hx hb dX5_sins_21 (by decide) (fun c0 => absurd c0 (by decide)) (fun _ => ?_)
    refine lv_aload_n hx hb dX5_sins_24 rfl (lv_at hl 1 rfl) ?_
    refine lv_iload_n hx hb dX5_sins_25 rfl (lv_at hl 0 rfl) ?_
    obtain ⟨a_10, ha_10, hf⟩ := bd_e hf
    refine Ct.callV (As := [.int (-1 : Int32)]) (rest := []) (st1 := [.int a_10.1]) (c_X5_no l D cI A M (-1 : Int32) a_10 ha_10) hx hb hml hown hts (cwV 1 hts gX5_sins_X5_no rfl rfl rfl hd_X5_no ⟨Nat.le_of_ble_eq_true rfl, Nat.le_of_ble_eq_true rfl⟩) (va_recv hK hP (ci := 5) (q0 := 0) rfl cM_at0) (Ln.id rfl) hA hK hP hD hS rfl hl.1 rfl rfl (Nat.le_of_ble_eq_true rfl) dX5_sins_26 (fun H locs hP hD hS => ?_)
    replace hP : va_P D vwCl (cM cI A a_10.2) H := hP
    replace hD : va_D AA (cM cI A a_10.2) := hD
    exact hend (a_10.1, a_10.2) H locs _ _ hf hP hS dX5_sins_29

def f_X5_loads (M : St) (p1 : Int32) (p2 : Int32) : Option (Int32 × St) := (bd (f_X5_isShip M p1) fun a_1 => (if a_1 = 0 then (bd (f_X5_no M (-1 : Int32)) fun a_10 => (some (a_10.1, a_10.2))) else (bd (f_X5_bound p2 (0 : Int32) (9 : Int32)) fun a_3 => (if a_3 = 0 then (gi p1 5 (nm (M 1 (p1).toNatClampNeg) fun v_6 => (gi p1 5 (nm (su M 1 (p1).toNatClampNeg p2) fun h_8 => (some (v_6, h_8)))))) else (bd (f_X5_no M a_3) fun a_9 => (some (a_9.1, a_9.2)))))))
def rm_X5_loads : Room := { frames := 1, cells := 0, slots := 0, locals := 22 }
theorem hd_X5_loads : yX5_loads.cls = RX5 ∧ yX5_loads.cls ≠ "java/lang/invoke/MethodHandle" ∧ yX5_loads.cls ≠ "java/lang/invoke/VarHandle" ∧ (parseMethodDescriptor yX5_loads.desc).map (fun d => d.parameters.length) = some 2 := by decide +kernel
set_option maxRecDepth 100000 in
set_option maxHeartbeats 4000000 in
theorem c_X5_loads (l : Launch) (D : va_G) (cI : ClassId) (A : Nat → Nat) (M : St) (p1 : Int32) (p2 : Int32) (r : Int32 × St) (hf : f_X5_loads M p1 p2 = some r) : Ct l yX5_loads wsX5_loads rm_X5_loads D cI (cM cI A M) (cM cI A r.2) [.ref (A 0), .int p1, .int p2] (some (.int r.1)) := by
  unfold f_X5_loads at hf
  refine Ct.ofI (cc := cX5_loads) (maxL := 5) (by decide +kernel) rfl (Nat.le_of_ble_eq_true rfl) ?_
  intro p e s m args below meth c AA Q H locs ls hx hb hml hown hts hA hK hP hD hS hl hend0
  have hend : ∀ (r1 : Int32 × St) (H : Heap) (locs : List Loc) (pc : Nat) (ls : Array Slot), some r1 = some r → va_P D vwCl (cM cI A r1.2) H → va_S AA s.heap H locs → decode cX5_loads pc = .ok (.ireturn, 1) → W p l e rm_X5_loads s m args below meth c H locs 0 0 Q (F0 m pc ls [.int r1.1]) := by
    intro r1 H locs pc ls e1 hP hS hd; cases e1; exact hend0 H locs pc ls hP hS hd
  clear hend0
  have hw5 : ∀ w ∈ wsX50, w ∈ wsX5_loads := by decide +kernel
  have k13 := hts (.fieldLink RX5 13 "AnchorsForConfessionModel" "heavy" "[I") (by decide +kernel)
  replace hl : lv_has ls 5 [(0, .ref (A 0)), (1, .int p1), (2, .int p2)] := hl
  refine lv_aload_n hx hb dX5_loads_0 rfl (lv_at hl 0 rfl) ?_
  refine lv_iload_n hx hb dX5_loads_1 rfl (lv_at hl 1 rfl) ?_
  obtain ⟨a_1, ha_1, hf⟩ := bd_e hf
  refine Ct.callV (As := [.int p1]) (rest := []) (st1 := [.int a_1]) (c_X5_isShip l D cI A M p1 a_1 ha_1) hx hb hml hown hts (cwV 1 hts gX5_loads_X5_isShip rfl rfl rfl hd_X5_isShip ⟨Nat.le_of_ble_eq_true rfl, Nat.le_of_ble_eq_true rfl⟩) (va_recv hK hP (ci := 5) (q0 := 0) rfl cM_at0) (Ln.id rfl) hA hK hP hD hS rfl hl.1 rfl rfl (Nat.le_of_ble_eq_true rfl) dX5_loads_2 (fun H locs hP hD hS => ?_)
  refine lv_if_ne (tgt := 12) hx hb dX5_loads_5 (by decide) (fun c_2 => ?_) (fun c_2 => ?_)
  · replace hf := if_f c_2 hf
    refine lv_iload_n hx hb dX5_loads_12 rfl (lv_at hl 2 rfl) ?_
    refine lv_iconst (v := 0) hx hb dX5_loads_13 (by decide) ?_
    refine lv_bipush (v := 9) hx hb dX5_loads_14 (by decide +kernel) ?_
    obtain ⟨a_3, ha_3, hf⟩ := bd_e hf
    refine Ct.callS (As := [.int p2, .int (0 : Int32), .int (9 : Int32)]) (rest := []) (st1 := [.int a_3]) (c_X5_bound l D cI  p2 (0 : Int32) (9 : Int32) a_3 ha_3) hx hb hml hown hts (va_cwS 3 hts gX5_loads_X5_bound rfl rfl rfl hd_X5_bound ⟨Nat.le_of_ble_eq_true rfl, Nat.le_of_ble_eq_true rfl⟩) Ln.nil hA hK hP hD hS rfl hl.1 rfl rfl (Nat.le_of_ble_eq_true rfl) dX5_loads_16 (fun H locs hP hD hS => ?_)
    refine lv_istore_n (lv' := [(3, .int a_3), (0, .ref (A 0)), (1, .int p1), (2, .int p2)]) hx hb dX5_loads_19 rfl hl (by decide) rfl (fun ls hl => ?_)
    refine lv_iload_n hx hb dX5_loads_20 rfl (lv_at hl 0 rfl) ?_
    refine lv_if_eq (tgt := 30) hx hb dX5_loads_21 (by decide) (fun c_4 => ?_) (fun c_4 => ?_)
    · replace hf := if_t c_4 hf
      refine lv_aload_n hx hb dX5_loads_30 rfl (lv_at hl 1 rfl) ?_
      refine va_get (D := D) (ci := 5) (v := .ref (A 2)) (C := RX5) (T := TX5) (N := 27) hx hb hts hw5 hown hK hP 0 cM_at0 rfl 1 (by decide) k13 (fun _ h9 => h9) rfl dX5_loads_31 ?_
      refine lv_iload_n hx hb dX5_loads_34 rfl (lv_at hl 2 rfl) ?_
      obtain ⟨c_5, hf⟩ := gi_e hf
      refine va_iald hx hb hK hP 2 0 cM_at2 rfl c_5 dX5_loads_35 ?_
      refine lv_topi (fun v_6 ev_6 => ?_)
      replace hf := nm_at ev_6 hf
      refine lv_istore (lv' := [(4, .int v_6), (3, .int a_3), (0, .ref (A 0)), (1, .int p1), (2, .int p2)]) hx hb dX5_loads_36 hl (by decide) rfl (fun ls hl => ?_)
      refine lv_aload_n hx hb dX5_loads_38 rfl (lv_at hl 2 rfl) ?_
      refine va_get (D := D) (ci := 5) (v := .ref (A 2)) (C := RX5) (T := TX5) (N := 27) hx hb hts hw5 hown hK hP 0 cM_at0 rfl 1 (by decide) k13 (fun _ h9 => h9) rfl dX5_loads_39 ?_
      refine lv_iload_n hx hb dX5_loads_42 rfl (lv_at hl 3 rfl) ?_
      refine lv_iload_n hx hb dX5_loads_43 rfl (lv_at hl 4 rfl) ?_
      obtain ⟨c_7, hf⟩ := gi_e hf
      refine va_iast hx hb hK hP hD hS 2 0 cM_at2 rfl c_7 dX5_loads_44 (fun H locs hP hD hS => ?_)
      obtain ⟨h_8, eh_8, hf⟩ := nm_e hf
      rw [cM_su2, ← eh_8] at hP hD
      refine lv_iload hx hb dX5_loads_45 (lv_at hl 0 rfl) ?_
      exact hend (v_6, h_8) H locs _ _ hf hP hS dX5_loads_47
    · replace hf := if_f c_4 hf
      refine lv_aload_n hx hb dX5_loads_24 rfl (lv_at hl 1 rfl) ?_
      refine lv_iload_n hx hb dX5_loads_25 rfl (lv_at hl 0 rfl) ?_
      obtain ⟨a_9, ha_9, hf⟩ := bd_e hf
      refine Ct.callV (As := [.int a_3]) (rest := []) (st1 := [.int a_9.1]) (c_X5_no l D cI A M a_3 a_9 ha_9) hx hb hml hown hts (cwV 1 hts gX5_loads_X5_no rfl rfl rfl hd_X5_no ⟨Nat.le_of_ble_eq_true rfl, Nat.le_of_ble_eq_true rfl⟩) (va_recv hK hP (ci := 5) (q0 := 0) rfl cM_at0) (Ln.id rfl) hA hK hP hD hS rfl hl.1 rfl rfl (Nat.le_of_ble_eq_true rfl) dX5_loads_26 (fun H locs hP hD hS => ?_)
      replace hP : va_P D vwCl (cM cI A a_9.2) H := hP
      replace hD : va_D AA (cM cI A a_9.2) := hD
      exact hend (a_9.1, a_9.2) H locs _ _ hf hP hS dX5_loads_29
  · replace hf := if_t c_2 hf
    refine lv_iconst (v := -1) hx hb dX5_loads_8 (by decide) ?_
    refine lv_goto (tgt := 19) hx hb dX5_loads_9 (by decide) ?_
    refine lv_istore_n (lv' := [(3, .int (-1 : Int32)), (0, .ref (A 0)), (1, .int p1), (2, .int p2)]) hx hb dX5_loads_19 rfl hl (by decide) rfl (fun ls hl => ?_)
    refine lv_iload_n hx hb dX5_loads_20 rfl (lv_at hl 0 rfl) ?_
    refine lv_if_eq (tgt := 30) hx hb dX5_loads_21 (by decide) (fun c0 => absurd c0 (by decide)) (fun _ => ?_)
    refine lv_aload_n hx hb dX5_loads_24 rfl (lv_at hl 1 rfl) ?_
    refine lv_iload_n hx hb dX5_loads_25 rfl (lv_at hl 0 rfl) ?_
    obtain ⟨a_10, ha_10, hf⟩ := bd_e hf
    refine Ct.callV (As := [.int (-1 : Int32)]) (rest := []) (st1 := [.int a_10.1]) (c_X5_no l D cI A M (-1 : Int32) a_10 ha_10) hx hb hml hown hts (cwV 1 hts gX5_loads_X5_no rfl rfl rfl hd_X5_no ⟨Nat.le_of_ble_eq_true rfl, Nat.le_of_ble_eq_true rfl⟩) (va_recv hK hP (ci := 5) (q0 := 0) rfl cM_at0) (Ln.id rfl) hA hK hP hD hS rfl hl.1 rfl rfl (Nat.le_of_ble_eq_true rfl) dX5_loads_26 (fun H locs hP hD hS => ?_)
    replace hP : va_P D vwCl (cM cI A a_10.2) H := hP
    replace hD : va_D AA (cM cI A a_10.2) := hD
    exact hend (a_10.1, a_10.2) H locs _ _ hf hP hS dX5_loads_29

def f_X5_turn (M : St) (p1 : Int32) (p2 : Int32) (p3 : Int32) : Option (Int32 × St) := (bd (f_X5_isMan M p1) fun a_1 => (if a_1 = 0 then (bd (f_X5_no M (-1 : Int32)) fun a_16 => (some (a_16.1, a_16.2))) else (bd (f_X5_isIn p2 (0 : Int32) (5 : Int32)) fun a_3 => (if a_3 = 0 then (bd (f_X5_no M (-2 : Int32)) fun a_15 => (some (a_15.1, a_15.2))) else (bd (f_X5_bound p3 (0 : Int32) (9 : Int32)) fun a_5 => (if a_5 = 0 then (gi p1 8 (gi p1 8 (nm (((10 : Int32) * (M 4 (p1).toNatClampNeg)) + (M 5 (p1).toNatClampNeg)) fun v_9 => (gi p1 8 (nm (su M 4 (p1).toNatClampNeg p2) fun h_11 => (gi p1 8 (nm (su h_11 5 (p1).toNatClampNeg p3) fun h_13 => (some (v_9, h_13))))))))) else (bd (f_X5_no M a_5) fun a_14 => (some (a_14.1, a_14.2)))))))))
def rm_X5_turn : Room := { frames := 1, cells := 0, slots := 0, locals := 22 }
theorem hd_X5_turn : yX5_turn.cls = RX5 ∧ yX5_turn.cls ≠ "java/lang/invoke/MethodHandle" ∧ yX5_turn.cls ≠ "java/lang/invoke/VarHandle" ∧ (parseMethodDescriptor yX5_turn.desc).map (fun d => d.parameters.length) = some 3 := by decide +kernel
set_option maxRecDepth 100000 in
set_option maxHeartbeats 4000000 in
theorem c_X5_turn (l : Launch) (D : va_G) (cI : ClassId) (A : Nat → Nat) (M : St) (p1 : Int32) (p2 : Int32) (p3 : Int32) (r : Int32 × St) (hf : f_X5_turn M p1 p2 p3 = some r) : Ct l yX5_turn wsX5_turn rm_X5_turn D cI (cM cI A M) (cM cI A r.2) [.ref (A 0), .int p1, .int p2, .int p3] (some (.int r.1)) := by
  unfold f_X5_turn at hf
  refine Ct.ofI (cc := cX5_turn) (maxL := 6) (by decide +kernel) rfl (Nat.le_of_ble_eq_true rfl) ?_
  intro p e s m args below meth c AA Q H locs ls hx hb hml hown hts hA hK hP hD hS hl hend0
  have hend : ∀ (r1 : Int32 × St) (H : Heap) (locs : List Loc) (pc : Nat) (ls : Array Slot), some r1 = some r → va_P D vwCl (cM cI A r1.2) H → va_S AA s.heap H locs → decode cX5_turn pc = .ok (.ireturn, 1) → W p l e rm_X5_turn s m args below meth c H locs 0 0 Q (F0 m pc ls [.int r1.1]) := by
    intro r1 H locs pc ls e1 hP hS hd; cases e1; exact hend0 H locs pc ls hP hS hd
  clear hend0
  have hw5 : ∀ w ∈ wsX50, w ∈ wsX5_turn := by decide +kernel
  have k22 := hts (.fieldLink RX5 22 "AnchorsForConfessionModel" "kind" "[I") (by decide +kernel)
  have k25 := hts (.fieldLink RX5 25 "AnchorsForConfessionModel" "figure" "[I") (by decide +kernel)
  replace hl : lv_has ls 6 [(0, .ref (A 0)), (1, .int p1), (2, .int p2), (3, .int p3)] := hl
  refine lv_aload_n hx hb dX5_turn_0 rfl (lv_at hl 0 rfl) ?_
  refine lv_iload_n hx hb dX5_turn_1 rfl (lv_at hl 1 rfl) ?_
  obtain ⟨a_1, ha_1, hf⟩ := bd_e hf
  refine Ct.callV (As := [.int p1]) (rest := []) (st1 := [.int a_1]) (c_X5_isMan l D cI A M p1 a_1 ha_1) hx hb hml hown hts (cwV 1 hts gX5_turn_X5_isMan rfl rfl rfl hd_X5_isMan ⟨Nat.le_of_ble_eq_true rfl, Nat.le_of_ble_eq_true rfl⟩) (va_recv hK hP (ci := 5) (q0 := 0) rfl cM_at0) (Ln.id rfl) hA hK hP hD hS rfl hl.1 rfl rfl (Nat.le_of_ble_eq_true rfl) dX5_turn_2 (fun H locs hP hD hS => ?_)
  refine lv_if_ne (tgt := 12) hx hb dX5_turn_5 (by decide) (fun c_2 => ?_) (fun c_2 => ?_)
  · replace hf := if_f c_2 hf
    refine lv_iload_n hx hb dX5_turn_12 rfl (lv_at hl 2 rfl) ?_
    refine lv_iconst (v := 0) hx hb dX5_turn_13 (by decide) ?_
    refine lv_iconst (v := 5) hx hb dX5_turn_14 (by decide) ?_
    obtain ⟨a_3, ha_3, hf⟩ := bd_e hf
    refine Ct.callS (As := [.int p2, .int (0 : Int32), .int (5 : Int32)]) (rest := []) (st1 := [.int a_3]) (c_X5_isIn l D cI  p2 (0 : Int32) (5 : Int32) a_3 ha_3) hx hb hml hown hts (va_cwS 3 hts gX5_turn_X5_isIn rfl rfl rfl hd_X5_isIn ⟨Nat.le_of_ble_eq_true rfl, Nat.le_of_ble_eq_true rfl⟩) Ln.nil hA hK hP hD hS rfl hl.1 rfl rfl (Nat.le_of_ble_eq_true rfl) dX5_turn_15 (fun H locs hP hD hS => ?_)
    refine lv_if_ne (tgt := 26) hx hb dX5_turn_18 (by decide) (fun c_4 => ?_) (fun c_4 => ?_)
    · replace hf := if_f c_4 hf
      refine lv_iload_n hx hb dX5_turn_26 rfl (lv_at hl 3 rfl) ?_
      refine lv_iconst (v := 0) hx hb dX5_turn_27 (by decide) ?_
      refine lv_bipush (v := 9) hx hb dX5_turn_28 (by decide +kernel) ?_
      obtain ⟨a_5, ha_5, hf⟩ := bd_e hf
      refine Ct.callS (As := [.int p3, .int (0 : Int32), .int (9 : Int32)]) (rest := []) (st1 := [.int a_5]) (c_X5_bound l D cI  p3 (0 : Int32) (9 : Int32) a_5 ha_5) hx hb hml hown hts (va_cwS 3 hts gX5_turn_X5_bound rfl rfl rfl hd_X5_bound ⟨Nat.le_of_ble_eq_true rfl, Nat.le_of_ble_eq_true rfl⟩) Ln.nil hA hK hP hD hS rfl hl.1 rfl rfl (Nat.le_of_ble_eq_true rfl) dX5_turn_30 (fun H locs hP hD hS => ?_)
      refine lv_istore (lv' := [(4, .int a_5), (0, .ref (A 0)), (1, .int p1), (2, .int p2), (3, .int p3)]) hx hb dX5_turn_33 hl (by decide) rfl (fun ls hl => ?_)
      refine lv_iload hx hb dX5_turn_35 (lv_at hl 0 rfl) ?_
      refine lv_if_eq (tgt := 47) hx hb dX5_turn_37 (by decide) (fun c_6 => ?_) (fun c_6 => ?_)
      · replace hf := if_t c_6 hf
        refine lv_bipush (v := 10) hx hb dX5_turn_47 (by decide +kernel) ?_
        refine lv_aload_n hx hb dX5_turn_49 rfl (lv_at hl 1 rfl) ?_
        refine va_get (D := D) (ci := 5) (v := .ref (A 5)) (C := RX5) (T := TX5) (N := 27) hx hb hts hw5 hown hK hP 0 cM_at0 rfl 4 (by decide) k22 (fun _ h9 => h9) rfl dX5_turn_50 ?_
        refine lv_iload_n hx hb dX5_turn_53 rfl (lv_at hl 2 rfl) ?_
        obtain ⟨c_7, hf⟩ := gi_e hf
        refine va_iald hx hb hK hP 5 0 cM_at5 rfl c_7 dX5_turn_54 ?_
        refine lv_imul hx hb dX5_turn_55 ?_
        refine lv_aload_n hx hb dX5_turn_56 rfl (lv_at hl 1 rfl) ?_
        refine va_get (D := D) (ci := 5) (v := .ref (A 6)) (C := RX5) (T := TX5) (N := 27) hx hb hts hw5 hown hK hP 0 cM_at0 rfl 5 (by decide) k25 (fun _ h9 => h9) rfl dX5_turn_57 ?_
        refine lv_iload_n hx hb dX5_turn_60 rfl (lv_at hl 2 rfl) ?_
        obtain ⟨c_8, hf⟩ := gi_e hf
        refine va_iald hx hb hK hP 6 0 cM_at6 rfl c_8 dX5_turn_61 ?_
        refine lv_iadd hx hb dX5_turn_62 ?_
        refine lv_topi (fun v_9 ev_9 => ?_)
        replace hf := nm_at ev_9 hf
        refine lv_istore (lv' := [(5, .int v_9), (4, .int a_5), (0, .ref (A 0)), (1, .int p1), (2, .int p2), (3, .int p3)]) hx hb dX5_turn_63 hl (by decide) rfl (fun ls hl => ?_)
        refine lv_aload_n hx hb dX5_turn_65 rfl (lv_at hl 2 rfl) ?_
        refine va_get (D := D) (ci := 5) (v := .ref (A 5)) (C := RX5) (T := TX5) (N := 27) hx hb hts hw5 hown hK hP 0 cM_at0 rfl 4 (by decide) k22 (fun _ h9 => h9) rfl dX5_turn_66 ?_
        refine lv_iload_n hx hb dX5_turn_69 rfl (lv_at hl 3 rfl) ?_
        refine lv_iload_n hx hb dX5_turn_70 rfl (lv_at hl 4 rfl) ?_
        obtain ⟨c_10, hf⟩ := gi_e hf
        refine va_iast hx hb hK hP hD hS 5 0 cM_at5 rfl c_10 dX5_turn_71 (fun H locs hP hD hS => ?_)
        obtain ⟨h_11, eh_11, hf⟩ := nm_e hf
        rw [cM_su5, ← eh_11] at hP hD
        refine lv_aload_n hx hb dX5_turn_72 rfl (lv_at hl 2 rfl) ?_
        refine va_get (D := D) (ci := 5) (v := .ref (A 6)) (C := RX5) (T := TX5) (N := 27) hx hb hts hw5 hown hK hP 0 cM_at0 rfl 5 (by decide) k25 (fun _ h9 => h9) rfl dX5_turn_73 ?_
        refine lv_iload_n hx hb dX5_turn_76 rfl (lv_at hl 3 rfl) ?_
        refine lv_iload_n hx hb dX5_turn_77 rfl (lv_at hl 5 rfl) ?_
        obtain ⟨c_12, hf⟩ := gi_e hf
        refine va_iast hx hb hK hP hD hS 6 0 cM_at6 rfl c_12 dX5_turn_78 (fun H locs hP hD hS => ?_)
        obtain ⟨h_13, eh_13, hf⟩ := nm_e hf
        rw [cM_su6, ← eh_13] at hP hD
        refine lv_iload hx hb dX5_turn_79 (lv_at hl 0 rfl) ?_
        exact hend (v_9, h_13) H locs _ _ hf hP hS dX5_turn_81
      · replace hf := if_f c_6 hf
        refine lv_aload_n hx hb dX5_turn_40 rfl (lv_at hl 1 rfl) ?_
        refine lv_iload hx hb dX5_turn_41 (lv_at hl 0 rfl) ?_
        obtain ⟨a_14, ha_14, hf⟩ := bd_e hf
        refine Ct.callV (As := [.int a_5]) (rest := []) (st1 := [.int a_14.1]) (c_X5_no l D cI A M a_5 a_14 ha_14) hx hb hml hown hts (cwV 1 hts gX5_turn_X5_no rfl rfl rfl hd_X5_no ⟨Nat.le_of_ble_eq_true rfl, Nat.le_of_ble_eq_true rfl⟩) (va_recv hK hP (ci := 5) (q0 := 0) rfl cM_at0) (Ln.id rfl) hA hK hP hD hS rfl hl.1 rfl rfl (Nat.le_of_ble_eq_true rfl) dX5_turn_43 (fun H locs hP hD hS => ?_)
        replace hP : va_P D vwCl (cM cI A a_14.2) H := hP
        replace hD : va_D AA (cM cI A a_14.2) := hD
        exact hend (a_14.1, a_14.2) H locs _ _ hf hP hS dX5_turn_46
    · replace hf := if_t c_4 hf
      refine lv_bipush (v := -2) hx hb dX5_turn_21 (by decide +kernel) ?_
      refine lv_goto (tgt := 33) hx hb dX5_turn_23 (by decide) ?_
      refine lv_istore (lv' := [(4, .int (-2 : Int32)), (0, .ref (A 0)), (1, .int p1), (2, .int p2), (3, .int p3)]) hx hb dX5_turn_33 hl (by decide) rfl (fun ls hl => ?_)
      refine lv_iload hx hb dX5_turn_35 (lv_at hl 0 rfl) ?_
      refine lv_if_eq (tgt := 47) hx hb dX5_turn_37 (by decide) (fun c0 => absurd c0 (by decide)) (fun _ => ?_)
      refine lv_aload_n hx hb dX5_turn_40 rfl (lv_at hl 1 rfl) ?_
      refine lv_iload hx hb dX5_turn_41 (lv_at hl 0 rfl) ?_
      obtain ⟨a_15, ha_15, hf⟩ := bd_e hf
      refine Ct.callV (As := [.int (-2 : Int32)]) (rest := []) (st1 := [.int a_15.1]) (c_X5_no l D cI A M (-2 : Int32) a_15 ha_15) hx hb hml hown hts (cwV 1 hts gX5_turn_X5_no rfl rfl rfl hd_X5_no ⟨Nat.le_of_ble_eq_true rfl, Nat.le_of_ble_eq_true rfl⟩) (va_recv hK hP (ci := 5) (q0 := 0) rfl cM_at0) (Ln.id rfl) hA hK hP hD hS rfl hl.1 rfl rfl (Nat.le_of_ble_eq_true rfl) dX5_turn_43 (fun H locs hP hD hS => ?_)
      replace hP : va_P D vwCl (cM cI A a_15.2) H := hP
      replace hD : va_D AA (cM cI A a_15.2) := hD
      exact hend (a_15.1, a_15.2) H locs _ _ hf hP hS dX5_turn_46
  · replace hf := if_t c_2 hf
    refine lv_iconst (v := -1) hx hb dX5_turn_8 (by decide) ?_
    refine lv_goto (tgt := 33) hx hb dX5_turn_9 (by decide) ?_
    refine lv_istore (lv' := [(4, .int (-1 : Int32)), (0, .ref (A 0)), (1, .int p1), (2, .int p2), (3, .int p3)]) hx hb dX5_turn_33 hl (by decide) rfl (fun ls hl => ?_)
    refine lv_iload hx hb dX5_turn_35 (lv_at hl 0 rfl) ?_
    refine lv_if_eq (tgt := 47) hx hb dX5_turn_37 (by decide) (fun c0 => absurd c0 (by decide)) (fun _ => ?_)
    refine lv_aload_n hx hb dX5_turn_40 rfl (lv_at hl 1 rfl) ?_
    refine lv_iload hx hb dX5_turn_41 (lv_at hl 0 rfl) ?_
    obtain ⟨a_16, ha_16, hf⟩ := bd_e hf
    refine Ct.callV (As := [.int (-1 : Int32)]) (rest := []) (st1 := [.int a_16.1]) (c_X5_no l D cI A M (-1 : Int32) a_16 ha_16) hx hb hml hown hts (cwV 1 hts gX5_turn_X5_no rfl rfl rfl hd_X5_no ⟨Nat.le_of_ble_eq_true rfl, Nat.le_of_ble_eq_true rfl⟩) (va_recv hK hP (ci := 5) (q0 := 0) rfl cM_at0) (Ln.id rfl) hA hK hP hD hS rfl hl.1 rfl rfl (Nat.le_of_ble_eq_true rfl) dX5_turn_43 (fun H locs hP hD hS => ?_)
    replace hP : va_P D vwCl (cM cI A a_16.2) H := hP
    replace hD : va_D AA (cM cI A a_16.2) := hD
    exact hend (a_16.1, a_16.2) H locs _ _ hf hP hS dX5_turn_46

def f_X5_tides (M : St) (p1 : Int32) : Option (Int32 × St) := (bd (f_X5_bound p1 (1 : Int32) (60 : Int32)) fun a_1 => (if a_1 = 0 then (if ((M 16 3) + p1) ≤ (999 : Int32) then (if a_1 = 0 then (bd (f_X5_goes M p1) fun a_9 => (bd (f_X5_outOnes a_9) fun a_10 => (some (a_10, a_9)))) else (bd (f_X5_no M a_1) fun a_11 => (some (a_11.1, a_11.2)))) else (bd (f_X5_no M (-6 : Int32)) fun a_12 => (some (a_12.1, a_12.2)))) else (if a_1 = 0 then (bd (f_X5_goes M p1) fun a_4 => (bd (f_X5_outOnes a_4) fun a_5 => (some (a_5, a_4)))) else (bd (f_X5_no M a_1) fun a_6 => (some (a_6.1, a_6.2))))))
def rm_X5_tides : Room := { frames := 3, cells := 0, slots := 0, locals := 65 }
theorem hd_X5_tides : yX5_tides.cls = RX5 ∧ yX5_tides.cls ≠ "java/lang/invoke/MethodHandle" ∧ yX5_tides.cls ≠ "java/lang/invoke/VarHandle" ∧ (parseMethodDescriptor yX5_tides.desc).map (fun d => d.parameters.length) = some 1 := by decide +kernel
set_option maxRecDepth 100000 in
set_option maxHeartbeats 4000000 in
theorem c_X5_tides (l : Launch) (D : va_G) (cI : ClassId) (A : Nat → Nat) (M : St) (p1 : Int32) (r : Int32 × St) (hf : f_X5_tides M p1 = some r) : Ct l yX5_tides wsX5_tides rm_X5_tides D cI (cM cI A M) (cM cI A r.2) [.ref (A 0), .int p1] (some (.int r.1)) := by
  unfold f_X5_tides at hf
  refine Ct.ofI (cc := cX5_tides) (maxL := 3) (by decide +kernel) rfl (Nat.le_of_ble_eq_true rfl) ?_
  intro p e s m args below meth c AA Q H locs ls hx hb hml hown hts hA hK hP hD hS hl hend0
  have hend : ∀ (r1 : Int32 × St) (H : Heap) (locs : List Loc) (pc : Nat) (ls : Array Slot), some r1 = some r → va_P D vwCl (cM cI A r1.2) H → va_S AA s.heap H locs → decode cX5_tides pc = .ok (.ireturn, 1) → W p l e rm_X5_tides s m args below meth c H locs 0 0 Q (F0 m pc ls [.int r1.1]) := by
    intro r1 H locs pc ls e1 hP hS hd; cases e1; exact hend0 H locs pc ls hP hS hd
  clear hend0
  have hw5 : ∀ w ∈ wsX50, w ∈ wsX5_tides := by decide +kernel
  have k110 := hts (.fieldLink RX5 110 "AnchorsForConfessionModel" "tide" "I") (by decide +kernel)
  replace hl : lv_has ls 3 [(0, .ref (A 0)), (1, .int p1)] := hl
  refine lv_iload_n hx hb dX5_tides_0 rfl (lv_at hl 1 rfl) ?_
  refine lv_iconst (v := 1) hx hb dX5_tides_1 (by decide) ?_
  refine lv_bipush (v := 60) hx hb dX5_tides_2 (by decide +kernel) ?_
  obtain ⟨a_1, ha_1, hf⟩ := bd_e hf
  refine Ct.callS (As := [.int p1, .int (1 : Int32), .int (60 : Int32)]) (rest := []) (st1 := [.int a_1]) (c_X5_bound l D cI  p1 (1 : Int32) (60 : Int32) a_1 ha_1) hx hb hml hown hts (va_cwS 3 hts gX5_tides_X5_bound rfl rfl rfl hd_X5_bound ⟨Nat.le_of_ble_eq_true rfl, Nat.le_of_ble_eq_true rfl⟩) Ln.nil hA hK hP hD hS rfl hl.1 rfl rfl (Nat.le_of_ble_eq_true rfl) dX5_tides_4 (fun H locs hP hD hS => ?_)
  refine lv_istore_n (lv' := [(2, .int a_1), (0, .ref (A 0)), (1, .int p1)]) hx hb dX5_tides_7 rfl hl (by decide) rfl (fun ls hl => ?_)
  refine lv_iload_n hx hb dX5_tides_8 rfl (lv_at hl 0 rfl) ?_
  refine lv_if_ne (tgt := 27) hx hb dX5_tides_9 (by decide) (fun c_2 => ?_) (fun c_2 => ?_)
  · replace hf := if_f c_2 hf
    refine lv_iload_n hx hb dX5_tides_27 rfl (lv_at hl 0 rfl) ?_
    refine lv_if_eq (tgt := 37) hx hb dX5_tides_28 (by decide) (fun c_3 => ?_) (fun c_3 => ?_)
    · replace hf := if_t c_3 hf
      refine lv_aload_n hx hb dX5_tides_37 rfl (lv_at hl 1 rfl) ?_
      refine lv_iload_n hx hb dX5_tides_38 rfl (lv_at hl 2 rfl) ?_
      obtain ⟨a_4, ha_4, hf⟩ := bd_e hf
      refine Ct.callV (As := [.int p1]) (rest := []) (st1 := []) (c_X5_goes l D cI A M p1 a_4 ha_4) hx hb hml hown hts (cwV 1 hts gX5_tides_X5_goes rfl rfl rfl hd_X5_goes ⟨Nat.le_of_ble_eq_true rfl, Nat.le_of_ble_eq_true rfl⟩) (va_recv hK hP (ci := 5) (q0 := 0) rfl cM_at0) (Ln.id rfl) hA hK hP hD hS rfl hl.1 rfl rfl (Nat.le_of_ble_eq_true rfl) dX5_tides_39 (fun H locs hP hD hS => ?_)
      replace hP : va_P D vwCl (cM cI A a_4) H := hP
      replace hD : va_D AA (cM cI A a_4) := hD
      refine lv_aload_n hx hb dX5_tides_42 rfl (lv_at hl 1 rfl) ?_
      obtain ⟨a_5, ha_5, hf⟩ := bd_e hf
      refine Ct.callV (As := []) (rest := []) (st1 := [.int a_5]) (c_X5_outOnes l D cI A a_4 a_5 ha_5) hx hb hml hown hts (cwV 0 hts gX5_tides_X5_outOnes rfl rfl rfl hd_X5_outOnes ⟨Nat.le_of_ble_eq_true rfl, Nat.le_of_ble_eq_true rfl⟩) (va_recv hK hP (ci := 5) (q0 := 0) rfl cM_at0) (Ln.id rfl) hA hK hP hD hS rfl hl.1 rfl rfl (Nat.le_of_ble_eq_true rfl) dX5_tides_43 (fun H locs hP hD hS => ?_)
      exact hend (a_5, a_4) H locs _ _ hf hP hS dX5_tides_46
    · replace hf := if_f c_3 hf
      refine lv_aload_n hx hb dX5_tides_31 rfl (lv_at hl 1 rfl) ?_
      refine lv_iload_n hx hb dX5_tides_32 rfl (lv_at hl 0 rfl) ?_
      obtain ⟨a_6, ha_6, hf⟩ := bd_e hf
      refine Ct.callV (As := [.int a_1]) (rest := []) (st1 := [.int a_6.1]) (c_X5_no l D cI A M a_1 a_6 ha_6) hx hb hml hown hts (cwV 1 hts gX5_tides_X5_no rfl rfl rfl hd_X5_no ⟨Nat.le_of_ble_eq_true rfl, Nat.le_of_ble_eq_true rfl⟩) (va_recv hK hP (ci := 5) (q0 := 0) rfl cM_at0) (Ln.id rfl) hA hK hP hD hS rfl hl.1 rfl rfl (Nat.le_of_ble_eq_true rfl) dX5_tides_33 (fun H locs hP hD hS => ?_)
      replace hP : va_P D vwCl (cM cI A a_6.2) H := hP
      replace hD : va_D AA (cM cI A a_6.2) := hD
      exact hend (a_6.1, a_6.2) H locs _ _ hf hP hS dX5_tides_36
  · replace hf := if_t c_2 hf
    refine lv_aload_n hx hb dX5_tides_12 rfl (lv_at hl 1 rfl) ?_
    refine va_get (D := D) (ci := 5) (v := .int (M 16 3)) (C := RX5) (T := TX5) (N := 27) hx hb hts hw5 hown hK hP 0 cM_at0 rfl 11 (by decide) k110 (fun _ h9 => h9) rfl dX5_tides_13 ?_
    refine lv_iload_n hx hb dX5_tides_16 rfl (lv_at hl 2 rfl) ?_
    refine lv_iadd hx hb dX5_tides_17 ?_
    refine lv_sipush (v := 999) hx hb dX5_tides_18 (by decide +kernel) ?_
    refine lv_icmp_le (tgt := 27) hx hb dX5_tides_21 (by decide) (fun c_7 => ?_) (fun c_7 => ?_)
    · replace hf := if_t c_7 hf
      refine lv_iload_n hx hb dX5_tides_27 rfl (lv_at hl 0 rfl) ?_
      refine lv_if_eq (tgt := 37) hx hb dX5_tides_28 (by decide) (fun c_8 => ?_) (fun c_8 => ?_)
      · replace hf := if_t c_8 hf
        refine lv_aload_n hx hb dX5_tides_37 rfl (lv_at hl 1 rfl) ?_
        refine lv_iload_n hx hb dX5_tides_38 rfl (lv_at hl 2 rfl) ?_
        obtain ⟨a_9, ha_9, hf⟩ := bd_e hf
        refine Ct.callV (As := [.int p1]) (rest := []) (st1 := []) (c_X5_goes l D cI A M p1 a_9 ha_9) hx hb hml hown hts (cwV 1 hts gX5_tides_X5_goes rfl rfl rfl hd_X5_goes ⟨Nat.le_of_ble_eq_true rfl, Nat.le_of_ble_eq_true rfl⟩) (va_recv hK hP (ci := 5) (q0 := 0) rfl cM_at0) (Ln.id rfl) hA hK hP hD hS rfl hl.1 rfl rfl (Nat.le_of_ble_eq_true rfl) dX5_tides_39 (fun H locs hP hD hS => ?_)
        replace hP : va_P D vwCl (cM cI A a_9) H := hP
        replace hD : va_D AA (cM cI A a_9) := hD
        refine lv_aload_n hx hb dX5_tides_42 rfl (lv_at hl 1 rfl) ?_
        obtain ⟨a_10, ha_10, hf⟩ := bd_e hf
        refine Ct.callV (As := []) (rest := []) (st1 := [.int a_10]) (c_X5_outOnes l D cI A a_9 a_10 ha_10) hx hb hml hown hts (cwV 0 hts gX5_tides_X5_outOnes rfl rfl rfl hd_X5_outOnes ⟨Nat.le_of_ble_eq_true rfl, Nat.le_of_ble_eq_true rfl⟩) (va_recv hK hP (ci := 5) (q0 := 0) rfl cM_at0) (Ln.id rfl) hA hK hP hD hS rfl hl.1 rfl rfl (Nat.le_of_ble_eq_true rfl) dX5_tides_43 (fun H locs hP hD hS => ?_)
        exact hend (a_10, a_9) H locs _ _ hf hP hS dX5_tides_46
      · replace hf := if_f c_8 hf
        refine lv_aload_n hx hb dX5_tides_31 rfl (lv_at hl 1 rfl) ?_
        refine lv_iload_n hx hb dX5_tides_32 rfl (lv_at hl 0 rfl) ?_
        obtain ⟨a_11, ha_11, hf⟩ := bd_e hf
        refine Ct.callV (As := [.int a_1]) (rest := []) (st1 := [.int a_11.1]) (c_X5_no l D cI A M a_1 a_11 ha_11) hx hb hml hown hts (cwV 1 hts gX5_tides_X5_no rfl rfl rfl hd_X5_no ⟨Nat.le_of_ble_eq_true rfl, Nat.le_of_ble_eq_true rfl⟩) (va_recv hK hP (ci := 5) (q0 := 0) rfl cM_at0) (Ln.id rfl) hA hK hP hD hS rfl hl.1 rfl rfl (Nat.le_of_ble_eq_true rfl) dX5_tides_33 (fun H locs hP hD hS => ?_)
        replace hP : va_P D vwCl (cM cI A a_11.2) H := hP
        replace hD : va_D AA (cM cI A a_11.2) := hD
        exact hend (a_11.1, a_11.2) H locs _ _ hf hP hS dX5_tides_36
    · replace hf := if_f c_7 hf
      refine lv_bipush (v := -6) hx hb dX5_tides_24 (by decide +kernel) ?_
      refine lv_istore_n (lv' := [(2, .int (-6 : Int32)), (0, .ref (A 0)), (1, .int p1)]) hx hb dX5_tides_26 rfl hl (by decide) rfl (fun ls hl => ?_)
      refine lv_iload_n hx hb dX5_tides_27 rfl (lv_at hl 0 rfl) ?_
      refine lv_if_eq (tgt := 37) hx hb dX5_tides_28 (by decide) (fun c0 => absurd c0 (by decide)) (fun _ => ?_)
      refine lv_aload_n hx hb dX5_tides_31 rfl (lv_at hl 1 rfl) ?_
      refine lv_iload_n hx hb dX5_tides_32 rfl (lv_at hl 0 rfl) ?_
      obtain ⟨a_12, ha_12, hf⟩ := bd_e hf
      refine Ct.callV (As := [.int (-6 : Int32)]) (rest := []) (st1 := [.int a_12.1]) (c_X5_no l D cI A M (-6 : Int32) a_12 ha_12) hx hb hml hown hts (cwV 1 hts gX5_tides_X5_no rfl rfl rfl hd_X5_no ⟨Nat.le_of_ble_eq_true rfl, Nat.le_of_ble_eq_true rfl⟩) (va_recv hK hP (ci := 5) (q0 := 0) rfl cM_at0) (Ln.id rfl) hA hK hP hD hS rfl hl.1 rfl rfl (Nat.le_of_ble_eq_true rfl) dX5_tides_33 (fun H locs hP hD hS => ?_)
      replace hP : va_P D vwCl (cM cI A a_12.2) H := hP
      replace hD : va_D AA (cM cI A a_12.2) := hD
      exact hend (a_12.1, a_12.2) H locs _ _ hf hP hS dX5_tides_36

def f_X5_notTides (p1 : Int32) : Option (Int32) := (bd (f_X5_bound p1 (0 : Int32) (60 : Int32)) fun a_1 => (some a_1))
def rm_X5_notTides : Room := { frames := 1, cells := 0, slots := 0, locals := 22 }
theorem hd_X5_notTides : yX5_notTides.cls ≠ "java/lang/invoke/MethodHandle" ∧ yX5_notTides.cls ≠ "java/lang/invoke/VarHandle" ∧ (parseMethodDescriptor yX5_notTides.desc).map (fun d => d.parameters.length) = some 1 := by decide +kernel
set_option maxRecDepth 100000 in
set_option maxHeartbeats 4000000 in
theorem c_X5_notTides (l : Launch) (D : va_G) (cI : ClassId) (p1 : Int32) (r : Int32) (hf : f_X5_notTides p1 = some r) : Ct l yX5_notTides wsX5_notTides rm_X5_notTides D cI [] [] [.int p1] (some (.int r)) := by
  unfold f_X5_notTides at hf
  refine Ct.ofI (cc := cX5_notTides) (maxL := 1) (by decide +kernel) rfl (Nat.le_of_ble_eq_true rfl) ?_
  intro p e s m args below meth c AA Q H locs ls hx hb hml hown hts hA hK hP hD hS hl hend0
  have hend : ∀ (r1 : Int32) (H : Heap) (locs : List Loc) (pc : Nat) (ls : Array Slot), some r1 = some r → va_P D vwCl [] H → va_S AA s.heap H locs → decode cX5_notTides pc = .ok (.ireturn, 1) → W p l e rm_X5_notTides s m args below meth c H locs 0 0 Q (F0 m pc ls [.int r1]) := by
    intro r1 H locs pc ls e1 hP hS hd; cases e1; exact hend0 H locs pc ls hP hS hd
  clear hend0
  replace hl : lv_has ls 1 [(0, .int p1)] := hl
  refine lv_iload_n hx hb dX5_notTides_0 rfl (lv_at hl 0 rfl) ?_
  refine lv_iconst (v := 0) hx hb dX5_notTides_1 (by decide) ?_
  refine lv_bipush (v := 60) hx hb dX5_notTides_2 (by decide +kernel) ?_
  obtain ⟨a_1, ha_1, hf⟩ := bd_e hf
  refine Ct.callS (As := [.int p1, .int (0 : Int32), .int (60 : Int32)]) (rest := []) (st1 := [.int a_1]) (c_X5_bound l D cI  p1 (0 : Int32) (60 : Int32) a_1 ha_1) hx hb hml hown hts (va_cwS 3 hts gX5_notTides_X5_bound rfl rfl rfl hd_X5_bound ⟨Nat.le_of_ble_eq_true rfl, Nat.le_of_ble_eq_true rfl⟩) (Ln.id rfl) hA hK hP hD hS rfl hl.1 rfl rfl (Nat.le_of_ble_eq_true rfl) dX5_notTides_4 (fun H locs hP hD hS => ?_)
  exact hend a_1 H locs _ _ hf hP hS dX5_notTides_7

def f_X5_shipThen (M : St) (p1 : Int32) (p2 : Int32) (p3 : Int32) : Option (Int32 × St) := (bd (f_X5_isShip M p1) fun a_1 => (if a_1 = 0 then (bd (f_X5_no M (-1 : Int32)) fun a_28 => (some (a_28.1, a_28.2))) else (bd (f_X5_notTides p2) fun a_3 => (if a_3 = 0 then (bd (f_X5_isIn p3 (0 : Int32) (1 : Int32)) fun a_15 => (if a_15 = 0 then (bd (f_X5_no M (-2 : Int32)) fun a_27 => (some (a_27.1, a_27.2))) else (if a_3 = 0 then (bd (f_X5_thinks M) fun a_18 => (bd (f_X5_goes a_18 p2) fun a_19 => (if p3 = 0 then (gi p1 5 (nm (a_19 3 (p1).toNatClampNeg) fun v_24 => (bd (f_X5_forgets a_19) fun a_25 => (some (v_24, a_25))))) else (bd (f_X5_holds a_19 p1) fun a_21 => (bd (f_X5_forgets a_19) fun a_22 => (some (a_21, a_22))))))) else (bd (f_X5_no M a_3) fun a_26 => (some (a_26.1, a_26.2)))))) else (if a_3 = 0 then (bd (f_X5_thinks M) fun a_6 => (bd (f_X5_goes a_6 p2) fun a_7 => (if p3 = 0 then (gi p1 5 (nm (a_7 3 (p1).toNatClampNeg) fun v_12 => (bd (f_X5_forgets a_7) fun a_13 => (some (v_12, a_13))))) else (bd (f_X5_holds a_7 p1) fun a_9 => (bd (f_X5_forgets a_7) fun a_10 => (some (a_9, a_10))))))) else (bd (f_X5_no M a_3) fun a_14 => (some (a_14.1, a_14.2))))))))
def rm_X5_shipThen : Room := { frames := 3, cells := 0, slots := 0, locals := 65 }
theorem hd_X5_shipThen : yX5_shipThen.cls = RX5 ∧ yX5_shipThen.cls ≠ "java/lang/invoke/MethodHandle" ∧ yX5_shipThen.cls ≠ "java/lang/invoke/VarHandle" ∧ (parseMethodDescriptor yX5_shipThen.desc).map (fun d => d.parameters.length) = some 3 := by decide +kernel
set_option maxRecDepth 100000 in
set_option maxHeartbeats 4000000 in
theorem c_X5_shipThen (l : Launch) (D : va_G) (cI : ClassId) (A : Nat → Nat) (M : St) (p1 : Int32) (p2 : Int32) (p3 : Int32) (r : Int32 × St) (hf : f_X5_shipThen M p1 p2 p3 = some r) : Ct l yX5_shipThen wsX5_shipThen rm_X5_shipThen D cI (cM cI A M) (cM cI A r.2) [.ref (A 0), .int p1, .int p2, .int p3] (some (.int r.1)) := by
  unfold f_X5_shipThen at hf
  refine Ct.ofI (cc := cX5_shipThen) (maxL := 6) (by decide +kernel) rfl (Nat.le_of_ble_eq_true rfl) ?_
  intro p e s m args below meth c AA Q H locs ls hx hb hml hown hts hA hK hP hD hS hl hend0
  have hend : ∀ (r1 : Int32 × St) (H : Heap) (locs : List Loc) (pc : Nat) (ls : Array Slot), some r1 = some r → va_P D vwCl (cM cI A r1.2) H → va_S AA s.heap H locs → decode cX5_shipThen pc = .ok (.ireturn, 1) → W p l e rm_X5_shipThen s m args below meth c H locs 0 0 Q (F0 m pc ls [.int r1.1]) := by
    intro r1 H locs pc ls e1 hP hS hd; cases e1; exact hend0 H locs pc ls hP hS hd
  clear hend0
  have hw5 : ∀ w ∈ wsX50, w ∈ wsX5_shipThen := by decide +kernel
  have k19 := hts (.fieldLink RX5 19 "AnchorsForConfessionModel" "out" "[I") (by decide +kernel)
  replace hl : lv_has ls 6 [(0, .ref (A 0)), (1, .int p1), (2, .int p2), (3, .int p3)] := hl
  refine lv_aload_n hx hb dX5_shipThen_0 rfl (lv_at hl 0 rfl) ?_
  refine lv_iload_n hx hb dX5_shipThen_1 rfl (lv_at hl 1 rfl) ?_
  obtain ⟨a_1, ha_1, hf⟩ := bd_e hf
  refine Ct.callV (As := [.int p1]) (rest := []) (st1 := [.int a_1]) (c_X5_isShip l D cI A M p1 a_1 ha_1) hx hb hml hown hts (cwV 1 hts gX5_shipThen_X5_isShip rfl rfl rfl hd_X5_isShip ⟨Nat.le_of_ble_eq_true rfl, Nat.le_of_ble_eq_true rfl⟩) (va_recv hK hP (ci := 5) (q0 := 0) rfl cM_at0) (Ln.id rfl) hA hK hP hD hS rfl hl.1 rfl rfl (Nat.le_of_ble_eq_true rfl) dX5_shipThen_2 (fun H locs hP hD hS => ?_)
  refine lv_if_ne (tgt := 12) hx hb dX5_shipThen_5 (by decide) (fun c_2 => ?_) (fun c_2 => ?_)
  · replace hf := if_f c_2 hf
    refine lv_iload_n hx hb dX5_shipThen_12 rfl (lv_at hl 2 rfl) ?_
    obtain ⟨a_3, ha_3, hf⟩ := bd_e hf
    refine Ct.callS (As := [.int p2]) (rest := []) (st1 := [.int a_3]) (c_X5_notTides l D cI  p2 a_3 ha_3) hx hb hml hown hts (va_cwS 1 hts gX5_shipThen_X5_notTides rfl rfl rfl hd_X5_notTides ⟨Nat.le_of_ble_eq_true rfl, Nat.le_of_ble_eq_true rfl⟩) Ln.nil hA hK hP hD hS rfl hl.1 rfl rfl (Nat.le_of_ble_eq_true rfl) dX5_shipThen_13 (fun H locs hP hD hS => ?_)
    refine lv_istore (lv' := [(4, .int a_3), (0, .ref (A 0)), (1, .int p1), (2, .int p2), (3, .int p3)]) hx hb dX5_shipThen_16 hl (by decide) rfl (fun ls hl => ?_)
    refine lv_iload hx hb dX5_shipThen_18 (lv_at hl 0 rfl) ?_
    refine lv_if_ne (tgt := 36) hx hb dX5_shipThen_20 (by decide) (fun c_4 => ?_) (fun c_4 => ?_)
    · replace hf := if_f c_4 hf
      refine lv_iload hx hb dX5_shipThen_36 (lv_at hl 0 rfl) ?_
      refine lv_if_eq (tgt := 48) hx hb dX5_shipThen_38 (by decide) (fun c_5 => ?_) (fun c_5 => ?_)
      · replace hf := if_t c_5 hf
        refine lv_aload_n hx hb dX5_shipThen_48 rfl (lv_at hl 1 rfl) ?_
        obtain ⟨a_6, ha_6, hf⟩ := bd_e hf
        refine Ct.callV (As := []) (rest := []) (st1 := []) (c_X5_thinks l D cI A M a_6 ha_6) hx hb hml hown hts (cwV 0 hts gX5_shipThen_X5_thinks rfl rfl rfl hd_X5_thinks ⟨Nat.le_of_ble_eq_true rfl, Nat.le_of_ble_eq_true rfl⟩) (va_recv hK hP (ci := 5) (q0 := 0) rfl cM_at0) (Ln.id rfl) hA hK hP hD hS rfl hl.1 rfl rfl (Nat.le_of_ble_eq_true rfl) dX5_shipThen_49 (fun H locs hP hD hS => ?_)
        replace hP : va_P D vwCl (cM cI A a_6) H := hP
        replace hD : va_D AA (cM cI A a_6) := hD
        refine lv_aload_n hx hb dX5_shipThen_52 rfl (lv_at hl 1 rfl) ?_
        refine lv_iload_n hx hb dX5_shipThen_53 rfl (lv_at hl 3 rfl) ?_
        obtain ⟨a_7, ha_7, hf⟩ := bd_e hf
        refine Ct.callV (As := [.int p2]) (rest := []) (st1 := []) (c_X5_goes l D cI A a_6 p2 a_7 ha_7) hx hb hml hown hts (cwV 1 hts gX5_shipThen_X5_goes rfl rfl rfl hd_X5_goes ⟨Nat.le_of_ble_eq_true rfl, Nat.le_of_ble_eq_true rfl⟩) (va_recv hK hP (ci := 5) (q0 := 0) rfl cM_at0) (Ln.id rfl) hA hK hP hD hS rfl hl.1 rfl rfl (Nat.le_of_ble_eq_true rfl) dX5_shipThen_54 (fun H locs hP hD hS => ?_)
        replace hP : va_P D vwCl (cM cI A a_7) H := hP
        replace hD : va_D AA (cM cI A a_7) := hD
        refine lv_iload_n hx hb dX5_shipThen_57 rfl (lv_at hl 4 rfl) ?_
        refine lv_if_ne (tgt := 70) hx hb dX5_shipThen_58 (by decide) (fun c_8 => ?_) (fun c_8 => ?_)
        · replace hf := if_f c_8 hf
          refine lv_aload_n hx hb dX5_shipThen_70 rfl (lv_at hl 1 rfl) ?_
          refine lv_iload_n hx hb dX5_shipThen_71 rfl (lv_at hl 2 rfl) ?_
          obtain ⟨a_9, ha_9, hf⟩ := bd_e hf
          refine Ct.callV (As := [.int p1]) (rest := []) (st1 := [.int a_9]) (c_X5_holds l D cI A a_7 p1 a_9 ha_9) hx hb hml hown hts (cwV 1 hts gX5_shipThen_X5_holds rfl rfl rfl hd_X5_holds ⟨Nat.le_of_ble_eq_true rfl, Nat.le_of_ble_eq_true rfl⟩) (va_recv hK hP (ci := 5) (q0 := 0) rfl cM_at0) (Ln.id rfl) hA hK hP hD hS rfl hl.1 rfl rfl (Nat.le_of_ble_eq_true rfl) dX5_shipThen_72 (fun H locs hP hD hS => ?_)
          refine lv_istore (lv' := [(5, .int a_9), (4, .int a_3), (0, .ref (A 0)), (1, .int p1), (2, .int p2), (3, .int p3)]) hx hb dX5_shipThen_75 hl (by decide) rfl (fun ls hl => ?_)
          refine lv_aload_n hx hb dX5_shipThen_77 rfl (lv_at hl 2 rfl) ?_
          obtain ⟨a_10, ha_10, hf⟩ := bd_e hf
          refine Ct.callV (As := []) (rest := []) (st1 := []) (c_X5_forgets l D cI A a_7 a_10 ha_10) hx hb hml hown hts (cwV 0 hts gX5_shipThen_X5_forgets rfl rfl rfl hd_X5_forgets ⟨Nat.le_of_ble_eq_true rfl, Nat.le_of_ble_eq_true rfl⟩) (va_recv hK hP (ci := 5) (q0 := 0) rfl cM_at0) (Ln.id rfl) hA hK hP hD hS rfl hl.1 rfl rfl (Nat.le_of_ble_eq_true rfl) dX5_shipThen_78 (fun H locs hP hD hS => ?_)
          replace hP : va_P D vwCl (cM cI A a_10) H := hP
          replace hD : va_D AA (cM cI A a_10) := hD
          refine lv_iload hx hb dX5_shipThen_81 (lv_at hl 0 rfl) ?_
          exact hend (a_9, a_10) H locs _ _ hf hP hS dX5_shipThen_83
        · replace hf := if_t c_8 hf
          refine lv_aload_n hx hb dX5_shipThen_61 rfl (lv_at hl 1 rfl) ?_
          refine va_get (D := D) (ci := 5) (v := .ref (A 4)) (C := RX5) (T := TX5) (N := 27) hx hb hts hw5 hown hK hP 0 cM_at0 rfl 3 (by decide) k19 (fun _ h9 => h9) rfl dX5_shipThen_62 ?_
          refine lv_iload_n hx hb dX5_shipThen_65 rfl (lv_at hl 2 rfl) ?_
          obtain ⟨c_11, hf⟩ := gi_e hf
          refine va_iald hx hb hK hP 4 0 cM_at4 rfl c_11 dX5_shipThen_66 ?_
          refine lv_goto (tgt := 75) hx hb dX5_shipThen_67 (by decide) ?_
          refine lv_topi (fun v_12 ev_12 => ?_)
          replace hf := nm_at ev_12 hf
          refine lv_istore (lv' := [(5, .int v_12), (4, .int a_3), (0, .ref (A 0)), (1, .int p1), (2, .int p2), (3, .int p3)]) hx hb dX5_shipThen_75 hl (by decide) rfl (fun ls hl => ?_)
          refine lv_aload_n hx hb dX5_shipThen_77 rfl (lv_at hl 2 rfl) ?_
          obtain ⟨a_13, ha_13, hf⟩ := bd_e hf
          refine Ct.callV (As := []) (rest := []) (st1 := []) (c_X5_forgets l D cI A a_7 a_13 ha_13) hx hb hml hown hts (cwV 0 hts gX5_shipThen_X5_forgets rfl rfl rfl hd_X5_forgets ⟨Nat.le_of_ble_eq_true rfl, Nat.le_of_ble_eq_true rfl⟩) (va_recv hK hP (ci := 5) (q0 := 0) rfl cM_at0) (Ln.id rfl) hA hK hP hD hS rfl hl.1 rfl rfl (Nat.le_of_ble_eq_true rfl) dX5_shipThen_78 (fun H locs hP hD hS => ?_)
          replace hP : va_P D vwCl (cM cI A a_13) H := hP
          replace hD : va_D AA (cM cI A a_13) := hD
          refine lv_iload hx hb dX5_shipThen_81 (lv_at hl 0 rfl) ?_
          exact hend (v_12, a_13) H locs _ _ hf hP hS dX5_shipThen_83
      · replace hf := if_f c_5 hf
        refine lv_aload_n hx hb dX5_shipThen_41 rfl (lv_at hl 1 rfl) ?_
        refine lv_iload hx hb dX5_shipThen_42 (lv_at hl 0 rfl) ?_
        obtain ⟨a_14, ha_14, hf⟩ := bd_e hf
        refine Ct.callV (As := [.int a_3]) (rest := []) (st1 := [.int a_14.1]) (c_X5_no l D cI A M a_3 a_14 ha_14) hx hb hml hown hts (cwV 1 hts gX5_shipThen_X5_no rfl rfl rfl hd_X5_no ⟨Nat.le_of_ble_eq_true rfl, Nat.le_of_ble_eq_true rfl⟩) (va_recv hK hP (ci := 5) (q0 := 0) rfl cM_at0) (Ln.id rfl) hA hK hP hD hS rfl hl.1 rfl rfl (Nat.le_of_ble_eq_true rfl) dX5_shipThen_44 (fun H locs hP hD hS => ?_)
        replace hP : va_P D vwCl (cM cI A a_14.2) H := hP
        replace hD : va_D AA (cM cI A a_14.2) := hD
        exact hend (a_14.1, a_14.2) H locs _ _ hf hP hS dX5_shipThen_47
    · replace hf := if_t c_4 hf
      refine lv_iload_n hx hb dX5_shipThen_23 rfl (lv_at hl 4 rfl) ?_
      refine lv_iconst (v := 0) hx hb dX5_shipThen_24 (by decide) ?_
      refine lv_iconst (v := 1) hx hb dX5_shipThen_25 (by decide) ?_
      obtain ⟨a_15, ha_15, hf⟩ := bd_e hf
      refine Ct.callS (As := [.int p3, .int (0 : Int32), .int (1 : Int32)]) (rest := []) (st1 := [.int a_15]) (c_X5_isIn l D cI  p3 (0 : Int32) (1 : Int32) a_15 ha_15) hx hb hml hown hts (va_cwS 3 hts gX5_shipThen_X5_isIn rfl rfl rfl hd_X5_isIn ⟨Nat.le_of_ble_eq_true rfl, Nat.le_of_ble_eq_true rfl⟩) Ln.nil hA hK hP hD hS rfl hl.1 rfl rfl (Nat.le_of_ble_eq_true rfl) dX5_shipThen_26 (fun H locs hP hD hS => ?_)
      refine lv_if_ne (tgt := 36) hx hb dX5_shipThen_29 (by decide) (fun c_16 => ?_) (fun c_16 => ?_)
      · replace hf := if_f c_16 hf
        refine lv_iload hx hb dX5_shipThen_36 (lv_at hl 0 rfl) ?_
        refine lv_if_eq (tgt := 48) hx hb dX5_shipThen_38 (by decide) (fun c_17 => ?_) (fun c_17 => ?_)
        · replace hf := if_t c_17 hf
          refine lv_aload_n hx hb dX5_shipThen_48 rfl (lv_at hl 1 rfl) ?_
          obtain ⟨a_18, ha_18, hf⟩ := bd_e hf
          refine Ct.callV (As := []) (rest := []) (st1 := []) (c_X5_thinks l D cI A M a_18 ha_18) hx hb hml hown hts (cwV 0 hts gX5_shipThen_X5_thinks rfl rfl rfl hd_X5_thinks ⟨Nat.le_of_ble_eq_true rfl, Nat.le_of_ble_eq_true rfl⟩) (va_recv hK hP (ci := 5) (q0 := 0) rfl cM_at0) (Ln.id rfl) hA hK hP hD hS rfl hl.1 rfl rfl (Nat.le_of_ble_eq_true rfl) dX5_shipThen_49 (fun H locs hP hD hS => ?_)
          replace hP : va_P D vwCl (cM cI A a_18) H := hP
          replace hD : va_D AA (cM cI A a_18) := hD
          refine lv_aload_n hx hb dX5_shipThen_52 rfl (lv_at hl 1 rfl) ?_
          refine lv_iload_n hx hb dX5_shipThen_53 rfl (lv_at hl 3 rfl) ?_
          obtain ⟨a_19, ha_19, hf⟩ := bd_e hf
          refine Ct.callV (As := [.int p2]) (rest := []) (st1 := []) (c_X5_goes l D cI A a_18 p2 a_19 ha_19) hx hb hml hown hts (cwV 1 hts gX5_shipThen_X5_goes rfl rfl rfl hd_X5_goes ⟨Nat.le_of_ble_eq_true rfl, Nat.le_of_ble_eq_true rfl⟩) (va_recv hK hP (ci := 5) (q0 := 0) rfl cM_at0) (Ln.id rfl) hA hK hP hD hS rfl hl.1 rfl rfl (Nat.le_of_ble_eq_true rfl) dX5_shipThen_54 (fun H locs hP hD hS => ?_)
          replace hP : va_P D vwCl (cM cI A a_19) H := hP
          replace hD : va_D AA (cM cI A a_19) := hD
          refine lv_iload_n hx hb dX5_shipThen_57 rfl (lv_at hl 4 rfl) ?_
          refine lv_if_ne (tgt := 70) hx hb dX5_shipThen_58 (by decide) (fun c_20 => ?_) (fun c_20 => ?_)
          · replace hf := if_f c_20 hf
            refine lv_aload_n hx hb dX5_shipThen_70 rfl (lv_at hl 1 rfl) ?_
            refine lv_iload_n hx hb dX5_shipThen_71 rfl (lv_at hl 2 rfl) ?_
            obtain ⟨a_21, ha_21, hf⟩ := bd_e hf
            refine Ct.callV (As := [.int p1]) (rest := []) (st1 := [.int a_21]) (c_X5_holds l D cI A a_19 p1 a_21 ha_21) hx hb hml hown hts (cwV 1 hts gX5_shipThen_X5_holds rfl rfl rfl hd_X5_holds ⟨Nat.le_of_ble_eq_true rfl, Nat.le_of_ble_eq_true rfl⟩) (va_recv hK hP (ci := 5) (q0 := 0) rfl cM_at0) (Ln.id rfl) hA hK hP hD hS rfl hl.1 rfl rfl (Nat.le_of_ble_eq_true rfl) dX5_shipThen_72 (fun H locs hP hD hS => ?_)
            refine lv_istore (lv' := [(5, .int a_21), (4, .int a_3), (0, .ref (A 0)), (1, .int p1), (2, .int p2), (3, .int p3)]) hx hb dX5_shipThen_75 hl (by decide) rfl (fun ls hl => ?_)
            refine lv_aload_n hx hb dX5_shipThen_77 rfl (lv_at hl 2 rfl) ?_
            obtain ⟨a_22, ha_22, hf⟩ := bd_e hf
            refine Ct.callV (As := []) (rest := []) (st1 := []) (c_X5_forgets l D cI A a_19 a_22 ha_22) hx hb hml hown hts (cwV 0 hts gX5_shipThen_X5_forgets rfl rfl rfl hd_X5_forgets ⟨Nat.le_of_ble_eq_true rfl, Nat.le_of_ble_eq_true rfl⟩) (va_recv hK hP (ci := 5) (q0 := 0) rfl cM_at0) (Ln.id rfl) hA hK hP hD hS rfl hl.1 rfl rfl (Nat.le_of_ble_eq_true rfl) dX5_shipThen_78 (fun H locs hP hD hS => ?_)
            replace hP : va_P D vwCl (cM cI A a_22) H := hP
            replace hD : va_D AA (cM cI A a_22) := hD
            refine lv_iload hx hb dX5_shipThen_81 (lv_at hl 0 rfl) ?_
            exact hend (a_21, a_22) H locs _ _ hf hP hS dX5_shipThen_83
          · replace hf := if_t c_20 hf
            refine lv_aload_n hx hb dX5_shipThen_61 rfl (lv_at hl 1 rfl) ?_
            refine va_get (D := D) (ci := 5) (v := .ref (A 4)) (C := RX5) (T := TX5) (N := 27) hx hb hts hw5 hown hK hP 0 cM_at0 rfl 3 (by decide) k19 (fun _ h9 => h9) rfl dX5_shipThen_62 ?_
            refine lv_iload_n hx hb dX5_shipThen_65 rfl (lv_at hl 2 rfl) ?_
            obtain ⟨c_23, hf⟩ := gi_e hf
            refine va_iald hx hb hK hP 4 0 cM_at4 rfl c_23 dX5_shipThen_66 ?_
            refine lv_goto (tgt := 75) hx hb dX5_shipThen_67 (by decide) ?_
            refine lv_topi (fun v_24 ev_24 => ?_)
            replace hf := nm_at ev_24 hf
            refine lv_istore (lv' := [(5, .int v_24), (4, .int a_3), (0, .ref (A 0)), (1, .int p1), (2, .int p2), (3, .int p3)]) hx hb dX5_shipThen_75 hl (by decide) rfl (fun ls hl => ?_)
            refine lv_aload_n hx hb dX5_shipThen_77 rfl (lv_at hl 2 rfl) ?_
            obtain ⟨a_25, ha_25, hf⟩ := bd_e hf
            refine Ct.callV (As := []) (rest := []) (st1 := []) (c_X5_forgets l D cI A a_19 a_25 ha_25) hx hb hml hown hts (cwV 0 hts gX5_shipThen_X5_forgets rfl rfl rfl hd_X5_forgets ⟨Nat.le_of_ble_eq_true rfl, Nat.le_of_ble_eq_true rfl⟩) (va_recv hK hP (ci := 5) (q0 := 0) rfl cM_at0) (Ln.id rfl) hA hK hP hD hS rfl hl.1 rfl rfl (Nat.le_of_ble_eq_true rfl) dX5_shipThen_78 (fun H locs hP hD hS => ?_)
            replace hP : va_P D vwCl (cM cI A a_25) H := hP
            replace hD : va_D AA (cM cI A a_25) := hD
            refine lv_iload hx hb dX5_shipThen_81 (lv_at hl 0 rfl) ?_
            exact hend (v_24, a_25) H locs _ _ hf hP hS dX5_shipThen_83
        · replace hf := if_f c_17 hf
          refine lv_aload_n hx hb dX5_shipThen_41 rfl (lv_at hl 1 rfl) ?_
          refine lv_iload hx hb dX5_shipThen_42 (lv_at hl 0 rfl) ?_
          obtain ⟨a_26, ha_26, hf⟩ := bd_e hf
          refine Ct.callV (As := [.int a_3]) (rest := []) (st1 := [.int a_26.1]) (c_X5_no l D cI A M a_3 a_26 ha_26) hx hb hml hown hts (cwV 1 hts gX5_shipThen_X5_no rfl rfl rfl hd_X5_no ⟨Nat.le_of_ble_eq_true rfl, Nat.le_of_ble_eq_true rfl⟩) (va_recv hK hP (ci := 5) (q0 := 0) rfl cM_at0) (Ln.id rfl) hA hK hP hD hS rfl hl.1 rfl rfl (Nat.le_of_ble_eq_true rfl) dX5_shipThen_44 (fun H locs hP hD hS => ?_)
          replace hP : va_P D vwCl (cM cI A a_26.2) H := hP
          replace hD : va_D AA (cM cI A a_26.2) := hD
          exact hend (a_26.1, a_26.2) H locs _ _ hf hP hS dX5_shipThen_47
      · replace hf := if_t c_16 hf
        refine lv_bipush (v := -2) hx hb dX5_shipThen_32 (by decide +kernel) ?_
        refine lv_istore (lv' := [(4, .int (-2 : Int32)), (0, .ref (A 0)), (1, .int p1), (2, .int p2), (3, .int p3)]) hx hb dX5_shipThen_34 hl (by decide) rfl (fun ls hl => ?_)
        refine lv_iload hx hb dX5_shipThen_36 (lv_at hl 0 rfl) ?_
        refine lv_if_eq (tgt := 48) hx hb dX5_shipThen_38 (by decide) (fun c0 => absurd c0 (by decide)) (fun _ => ?_)
        refine lv_aload_n hx hb dX5_shipThen_41 rfl (lv_at hl 1 rfl) ?_
        refine lv_iload hx hb dX5_shipThen_42 (lv_at hl 0 rfl) ?_
        obtain ⟨a_27, ha_27, hf⟩ := bd_e hf
        refine Ct.callV (As := [.int (-2 : Int32)]) (rest := []) (st1 := [.int a_27.1]) (c_X5_no l D cI A M (-2 : Int32) a_27 ha_27) hx hb hml hown hts (cwV 1 hts gX5_shipThen_X5_no rfl rfl rfl hd_X5_no ⟨Nat.le_of_ble_eq_true rfl, Nat.le_of_ble_eq_true rfl⟩) (va_recv hK hP (ci := 5) (q0 := 0) rfl cM_at0) (Ln.id rfl) hA hK hP hD hS rfl hl.1 rfl rfl (Nat.le_of_ble_eq_true rfl) dX5_shipThen_44 (fun H locs hP hD hS => ?_)
        replace hP : va_P D vwCl (cM cI A a_27.2) H := hP
        replace hD : va_D AA (cM cI A a_27.2) := hD
        exact hend (a_27.1, a_27.2) H locs _ _ hf hP hS dX5_shipThen_47
  · replace hf := if_t c_2 hf
    refine lv_iconst (v := -1) hx hb dX5_shipThen_8 (by decide) ?_
    refine lv_goto (tgt := 16) hx hb dX5_shipThen_9 (by decide) ?_
    refine lv_istore (lv' := [(4, .int (-1 : Int32)), (0, .ref (A 0)), (1, .int p1), (2, .int p2), (3, .int p3)]) hx hb dX5_shipThen_16 hl (by decide) rfl (fun ls hl => ?_)
    refine lv_iload hx hb dX5_shipThen_18 (lv_at hl 0 rfl) ?_
    refine lv_if_ne (tgt := 36) hx hb dX5_shipThen_20 (by decide) (fun _ => ?_) (fun c0 => absurd c0 (by decide))
    refine lv_iload hx hb dX5_shipThen_36 (lv_at hl 0 rfl) ?_
    refine lv_if_eq (tgt := 48) hx hb dX5_shipThen_38 (by decide) (fun c0 => absurd c0 (by decide)) (fun _ => ?_)
    refine lv_aload_n hx hb dX5_shipThen_41 rfl (lv_at hl 1 rfl) ?_
    refine lv_iload hx hb dX5_shipThen_42 (lv_at hl 0 rfl) ?_
    obtain ⟨a_28, ha_28, hf⟩ := bd_e hf
    refine Ct.callV (As := [.int (-1 : Int32)]) (rest := []) (st1 := [.int a_28.1]) (c_X5_no l D cI A M (-1 : Int32) a_28 ha_28) hx hb hml hown hts (cwV 1 hts gX5_shipThen_X5_no rfl rfl rfl hd_X5_no ⟨Nat.le_of_ble_eq_true rfl, Nat.le_of_ble_eq_true rfl⟩) (va_recv hK hP (ci := 5) (q0 := 0) rfl cM_at0) (Ln.id rfl) hA hK hP hD hS rfl hl.1 rfl rfl (Nat.le_of_ble_eq_true rfl) dX5_shipThen_44 (fun H locs hP hD hS => ?_)
    replace hP : va_P D vwCl (cM cI A a_28.2) H := hP
    replace hD : va_D AA (cM cI A a_28.2) := hD
    exact hend (a_28.1, a_28.2) H locs _ _ hf hP hS dX5_shipThen_47

def f_X5_sinsThen (M : St) (p1 : Int32) (p2 : Int32) : Option (Int32 × St) := (bd (f_X5_isMan M p1) fun a_1 => (if a_1 = 0 then (bd (f_X5_no M (-1 : Int32)) fun a_11 => (some (a_11.1, a_11.2))) else (bd (f_X5_notTides p2) fun a_3 => (if a_3 = 0 then (bd (f_X5_thinks M) fun a_5 => (bd (f_X5_goes a_5 p2) fun a_6 => (gi p1 8 (nm (a_6 6 (p1).toNatClampNeg) fun v_8 => (bd (f_X5_forgets a_6) fun a_9 => (some (v_8, a_9))))))) else (bd (f_X5_no M a_3) fun a_10 => (some (a_10.1, a_10.2)))))))
def rm_X5_sinsThen : Room := { frames := 3, cells := 0, slots := 0, locals := 65 }
theorem hd_X5_sinsThen : yX5_sinsThen.cls = RX5 ∧ yX5_sinsThen.cls ≠ "java/lang/invoke/MethodHandle" ∧ yX5_sinsThen.cls ≠ "java/lang/invoke/VarHandle" ∧ (parseMethodDescriptor yX5_sinsThen.desc).map (fun d => d.parameters.length) = some 2 := by decide +kernel
set_option maxRecDepth 100000 in
set_option maxHeartbeats 4000000 in
theorem c_X5_sinsThen (l : Launch) (D : va_G) (cI : ClassId) (A : Nat → Nat) (M : St) (p1 : Int32) (p2 : Int32) (r : Int32 × St) (hf : f_X5_sinsThen M p1 p2 = some r) : Ct l yX5_sinsThen wsX5_sinsThen rm_X5_sinsThen D cI (cM cI A M) (cM cI A r.2) [.ref (A 0), .int p1, .int p2] (some (.int r.1)) := by
  unfold f_X5_sinsThen at hf
  refine Ct.ofI (cc := cX5_sinsThen) (maxL := 5) (by decide +kernel) rfl (Nat.le_of_ble_eq_true rfl) ?_
  intro p e s m args below meth c AA Q H locs ls hx hb hml hown hts hA hK hP hD hS hl hend0
  have hend : ∀ (r1 : Int32 × St) (H : Heap) (locs : List Loc) (pc : Nat) (ls : Array Slot), some r1 = some r → va_P D vwCl (cM cI A r1.2) H → va_S AA s.heap H locs → decode cX5_sinsThen pc = .ok (.ireturn, 1) → W p l e rm_X5_sinsThen s m args below meth c H locs 0 0 Q (F0 m pc ls [.int r1.1]) := by
    intro r1 H locs pc ls e1 hP hS hd; cases e1; exact hend0 H locs pc ls hP hS hd
  clear hend0
  have hw5 : ∀ w ∈ wsX50, w ∈ wsX5_sinsThen := by decide +kernel
  have k28 := hts (.fieldLink RX5 28 "AnchorsForConfessionModel" "sins" "[I") (by decide +kernel)
  replace hl : lv_has ls 5 [(0, .ref (A 0)), (1, .int p1), (2, .int p2)] := hl
  refine lv_aload_n hx hb dX5_sinsThen_0 rfl (lv_at hl 0 rfl) ?_
  refine lv_iload_n hx hb dX5_sinsThen_1 rfl (lv_at hl 1 rfl) ?_
  obtain ⟨a_1, ha_1, hf⟩ := bd_e hf
  refine Ct.callV (As := [.int p1]) (rest := []) (st1 := [.int a_1]) (c_X5_isMan l D cI A M p1 a_1 ha_1) hx hb hml hown hts (cwV 1 hts gX5_sinsThen_X5_isMan rfl rfl rfl hd_X5_isMan ⟨Nat.le_of_ble_eq_true rfl, Nat.le_of_ble_eq_true rfl⟩) (va_recv hK hP (ci := 5) (q0 := 0) rfl cM_at0) (Ln.id rfl) hA hK hP hD hS rfl hl.1 rfl rfl (Nat.le_of_ble_eq_true rfl) dX5_sinsThen_2 (fun H locs hP hD hS => ?_)
  refine lv_if_ne (tgt := 12) hx hb dX5_sinsThen_5 (by decide) (fun c_2 => ?_) (fun c_2 => ?_)
  · replace hf := if_f c_2 hf
    refine lv_iload_n hx hb dX5_sinsThen_12 rfl (lv_at hl 2 rfl) ?_
    obtain ⟨a_3, ha_3, hf⟩ := bd_e hf
    refine Ct.callS (As := [.int p2]) (rest := []) (st1 := [.int a_3]) (c_X5_notTides l D cI  p2 a_3 ha_3) hx hb hml hown hts (va_cwS 1 hts gX5_sinsThen_X5_notTides rfl rfl rfl hd_X5_notTides ⟨Nat.le_of_ble_eq_true rfl, Nat.le_of_ble_eq_true rfl⟩) Ln.nil hA hK hP hD hS rfl hl.1 rfl rfl (Nat.le_of_ble_eq_true rfl) dX5_sinsThen_13 (fun H locs hP hD hS => ?_)
    refine lv_istore_n (lv' := [(3, .int a_3), (0, .ref (A 0)), (1, .int p1), (2, .int p2)]) hx hb dX5_sinsThen_16 rfl hl (by decide) rfl (fun ls hl => ?_)
    refine lv_iload_n hx hb dX5_sinsThen_17 rfl (lv_at hl 0 rfl) ?_
    refine lv_if_eq (tgt := 27) hx hb dX5_sinsThen_18 (by decide) (fun c_4 => ?_) (fun c_4 => ?_)
    · replace hf := if_t c_4 hf
      refine lv_aload_n hx hb dX5_sinsThen_27 rfl (lv_at hl 1 rfl) ?_
      obtain ⟨a_5, ha_5, hf⟩ := bd_e hf
      refine Ct.callV (As := []) (rest := []) (st1 := []) (c_X5_thinks l D cI A M a_5 ha_5) hx hb hml hown hts (cwV 0 hts gX5_sinsThen_X5_thinks rfl rfl rfl hd_X5_thinks ⟨Nat.le_of_ble_eq_true rfl, Nat.le_of_ble_eq_true rfl⟩) (va_recv hK hP (ci := 5) (q0 := 0) rfl cM_at0) (Ln.id rfl) hA hK hP hD hS rfl hl.1 rfl rfl (Nat.le_of_ble_eq_true rfl) dX5_sinsThen_28 (fun H locs hP hD hS => ?_)
      replace hP : va_P D vwCl (cM cI A a_5) H := hP
      replace hD : va_D AA (cM cI A a_5) := hD
      refine lv_aload_n hx hb dX5_sinsThen_31 rfl (lv_at hl 1 rfl) ?_
      refine lv_iload_n hx hb dX5_sinsThen_32 rfl (lv_at hl 3 rfl) ?_
      obtain ⟨a_6, ha_6, hf⟩ := bd_e hf
      refine Ct.callV (As := [.int p2]) (rest := []) (st1 := []) (c_X5_goes l D cI A a_5 p2 a_6 ha_6) hx hb hml hown hts (cwV 1 hts gX5_sinsThen_X5_goes rfl rfl rfl hd_X5_goes ⟨Nat.le_of_ble_eq_true rfl, Nat.le_of_ble_eq_true rfl⟩) (va_recv hK hP (ci := 5) (q0 := 0) rfl cM_at0) (Ln.id rfl) hA hK hP hD hS rfl hl.1 rfl rfl (Nat.le_of_ble_eq_true rfl) dX5_sinsThen_33 (fun H locs hP hD hS => ?_)
      replace hP : va_P D vwCl (cM cI A a_6) H := hP
      replace hD : va_D AA (cM cI A a_6) := hD
      refine lv_aload_n hx hb dX5_sinsThen_36 rfl (lv_at hl 1 rfl) ?_
      refine va_get (D := D) (ci := 5) (v := .ref (A 7)) (C := RX5) (T := TX5) (N := 27) hx hb hts hw5 hown hK hP 0 cM_at0 rfl 6 (by decide) k28 (fun _ h9 => h9) rfl dX5_sinsThen_37 ?_
      refine lv_iload_n hx hb dX5_sinsThen_40 rfl (lv_at hl 2 rfl) ?_
      obtain ⟨c_7, hf⟩ := gi_e hf
      refine va_iald hx hb hK hP 7 0 cM_at7 rfl c_7 dX5_sinsThen_41 ?_
      refine lv_topi (fun v_8 ev_8 => ?_)
      replace hf := nm_at ev_8 hf
      refine lv_istore (lv' := [(4, .int v_8), (3, .int a_3), (0, .ref (A 0)), (1, .int p1), (2, .int p2)]) hx hb dX5_sinsThen_42 hl (by decide) rfl (fun ls hl => ?_)
      refine lv_aload_n hx hb dX5_sinsThen_44 rfl (lv_at hl 2 rfl) ?_
      obtain ⟨a_9, ha_9, hf⟩ := bd_e hf
      refine Ct.callV (As := []) (rest := []) (st1 := []) (c_X5_forgets l D cI A a_6 a_9 ha_9) hx hb hml hown hts (cwV 0 hts gX5_sinsThen_X5_forgets rfl rfl rfl hd_X5_forgets ⟨Nat.le_of_ble_eq_true rfl, Nat.le_of_ble_eq_true rfl⟩) (va_recv hK hP (ci := 5) (q0 := 0) rfl cM_at0) (Ln.id rfl) hA hK hP hD hS rfl hl.1 rfl rfl (Nat.le_of_ble_eq_true rfl) dX5_sinsThen_45 (fun H locs hP hD hS => ?_)
      replace hP : va_P D vwCl (cM cI A a_9) H := hP
      replace hD : va_D AA (cM cI A a_9) := hD
      refine lv_iload hx hb dX5_sinsThen_48 (lv_at hl 0 rfl) ?_
      exact hend (v_8, a_9) H locs _ _ hf hP hS dX5_sinsThen_50
    · replace hf := if_f c_4 hf
      refine lv_aload_n hx hb dX5_sinsThen_21 rfl (lv_at hl 1 rfl) ?_
      refine lv_iload_n hx hb dX5_sinsThen_22 rfl (lv_at hl 0 rfl) ?_
      obtain ⟨a_10, ha_10, hf⟩ := bd_e hf
      refine Ct.callV (As := [.int a_3]) (rest := []) (st1 := [.int a_10.1]) (c_X5_no l D cI A M a_3 a_10 ha_10) hx hb hml hown hts (cwV 1 hts gX5_sinsThen_X5_no rfl rfl rfl hd_X5_no ⟨Nat.le_of_ble_eq_true rfl, Nat.le_of_ble_eq_true rfl⟩) (va_recv hK hP (ci := 5) (q0 := 0) rfl cM_at0) (Ln.id rfl) hA hK hP hD hS rfl hl.1 rfl rfl (Nat.le_of_ble_eq_true rfl) dX5_sinsThen_23 (fun H locs hP hD hS => ?_)
      replace hP : va_P D vwCl (cM cI A a_10.2) H := hP
      replace hD : va_D AA (cM cI A a_10.2) := hD
      exact hend (a_10.1, a_10.2) H locs _ _ hf hP hS dX5_sinsThen_26
  · replace hf := if_t c_2 hf
    refine lv_iconst (v := -1) hx hb dX5_sinsThen_8 (by decide) ?_
    refine lv_goto (tgt := 16) hx hb dX5_sinsThen_9 (by decide) ?_
    refine lv_istore_n (lv' := [(3, .int (-1 : Int32)), (0, .ref (A 0)), (1, .int p1), (2, .int p2)]) hx hb dX5_sinsThen_16 rfl hl (by decide) rfl (fun ls hl => ?_)
    refine lv_iload_n hx hb dX5_sinsThen_17 rfl (lv_at hl 0 rfl) ?_
    refine lv_if_eq (tgt := 27) hx hb dX5_sinsThen_18 (by decide) (fun c0 => absurd c0 (by decide)) (fun _ => ?_)
    refine lv_aload_n hx hb dX5_sinsThen_21 rfl (lv_at hl 1 rfl) ?_
    refine lv_iload_n hx hb dX5_sinsThen_22 rfl (lv_at hl 0 rfl) ?_
    obtain ⟨a_11, ha_11, hf⟩ := bd_e hf
    refine Ct.callV (As := [.int (-1 : Int32)]) (rest := []) (st1 := [.int a_11.1]) (c_X5_no l D cI A M (-1 : Int32) a_11 ha_11) hx hb hml hown hts (cwV 1 hts gX5_sinsThen_X5_no rfl rfl rfl hd_X5_no ⟨Nat.le_of_ble_eq_true rfl, Nat.le_of_ble_eq_true rfl⟩) (va_recv hK hP (ci := 5) (q0 := 0) rfl cM_at0) (Ln.id rfl) hA hK hP hD hS rfl hl.1 rfl rfl (Nat.le_of_ble_eq_true rfl) dX5_sinsThen_23 (fun H locs hP hD hS => ?_)
    replace hP : va_P D vwCl (cM cI A a_11.2) H := hP
    replace hD : va_D AA (cM cI A a_11.2) := hD
    exact hend (a_11.1, a_11.2) H locs _ _ hf hP hS dX5_sinsThen_26

def f_X5_canRise (M : St) (p1 : Int32) : Option (Int32) := fz (gi p1 5 (if (M 3 (p1).toNatClampNeg) = 0 then (bd (f_X5_pool M p1) fun a_3 => (bd (f_X5_lacks M p1) fun a_4 => (if a_3 < a_4 then (some (0 : Int32)) else (some (1 : Int32))))) else (some (0 : Int32))))
def rm_X5_canRise : Room := { frames := 3, cells := 0, slots := 0, locals := 69 }
theorem hd_X5_canRise : yX5_canRise.cls = RX5 ∧ yX5_canRise.cls ≠ "java/lang/invoke/MethodHandle" ∧ yX5_canRise.cls ≠ "java/lang/invoke/VarHandle" ∧ (parseMethodDescriptor yX5_canRise.desc).map (fun d => d.parameters.length) = some 1 := by decide +kernel
set_option maxRecDepth 100000 in
set_option maxHeartbeats 4000000 in
theorem c_X5_canRise (l : Launch) (D : va_G) (cI : ClassId) (A : Nat → Nat) (M : St) (p1 : Int32) (r : Int32) (hf : f_X5_canRise M p1 = some r) : Ct l yX5_canRise wsX5_canRise rm_X5_canRise D cI (cM cI A M) (cM cI A M) [.ref (A 0), .int p1] (some (.int r)) := by
  unfold f_X5_canRise at hf
  obtain ⟨hz, hf⟩ := fz_e hf
  refine Ct.ofZ hz (cc := cX5_canRise) (maxL := 2) (by decide +kernel) rfl (Nat.le_of_ble_eq_true rfl) ?_
  intro p e s m args below meth c AA Q H locs ls hx hb hml hown hts hA hK hP hD hS hl hend0
  have hend : ∀ (r1 : Int32) (H : Heap) (locs : List Loc) (pc : Nat) (ls : Array Slot), some r1 = some r → va_P D vwCl (cM cI A M) H → va_S AA s.heap H locs → decode cX5_canRise pc = .ok (.ireturn, 1) → W p l e rm_X5_canRise s m args below meth c H locs 0 0 Q (F0 m pc ls [.int r1]) := by
    intro r1 H locs pc ls e1 hP hS hd; cases e1; exact hend0 H locs pc ls hP hS hd
  clear hend0
  have hw5 : ∀ w ∈ wsX50, w ∈ wsX5_canRise := by decide +kernel
  have k19 := hts (.fieldLink RX5 19 "AnchorsForConfessionModel" "out" "[I") (by decide +kernel)
  replace hl : lv_has ls 2 [(0, .ref (A 0)), (1, .int p1)] := hl
  refine lv_aload_n hx hb dX5_canRise_0 rfl (lv_at hl 0 rfl) ?_
  refine va_get (D := D) (ci := 5) (v := .ref (A 4)) (C := RX5) (T := TX5) (N := 27) hx hb hts hw5 hown hK hP 0 cM_at0 rfl 3 (by decide) k19 (fun _ h9 => h9) rfl dX5_canRise_1 ?_
  refine lv_iload_n hx hb dX5_canRise_4 rfl (lv_at hl 1 rfl) ?_
  obtain ⟨c_1, hf⟩ := gi_e hf
  refine va_iald hx hb hK hP 4 0 cM_at4 rfl c_1 dX5_canRise_5 ?_
  refine lv_if_ne (tgt := 26) hx hb dX5_canRise_6 (by decide) (fun c_2 => ?_) (fun c_2 => ?_)
  · replace hf := if_f c_2 hf
    refine lv_iconst (v := 0) hx hb dX5_canRise_26 (by decide) ?_
    exact hend (0 : Int32) H locs _ _ hf hP hS dX5_canRise_27
  · replace hf := if_t c_2 hf
    refine lv_aload_n hx hb dX5_canRise_9 rfl (lv_at hl 0 rfl) ?_
    refine lv_iload_n hx hb dX5_canRise_10 rfl (lv_at hl 1 rfl) ?_
    obtain ⟨a_3, ha_3, hf⟩ := bd_e hf
    refine Ct.callV (As := [.int p1]) (rest := []) (st1 := [.int a_3]) (c_X5_pool l D cI A M p1 a_3 ha_3) hx hb hml hown hts (cwV 1 hts gX5_canRise_X5_pool rfl rfl rfl hd_X5_pool ⟨Nat.le_of_ble_eq_true rfl, Nat.le_of_ble_eq_true rfl⟩) (va_recv hK hP (ci := 5) (q0 := 0) rfl cM_at0) (Ln.id rfl) hA hK hP hD hS rfl hl.1 rfl rfl (Nat.le_of_ble_eq_true rfl) dX5_canRise_11 (fun H locs hP hD hS => ?_)
    refine lv_aload_n hx hb dX5_canRise_14 rfl (lv_at hl 0 rfl) ?_
    refine lv_iload_n hx hb dX5_canRise_15 rfl (lv_at hl 1 rfl) ?_
    obtain ⟨a_4, ha_4, hf⟩ := bd_e hf
    refine Ct.callV (As := [.int p1]) (rest := [.int a_3]) (st1 := [.int a_4, .int a_3]) (c_X5_lacks l D cI A M p1 a_4 ha_4) hx hb hml hown hts (cwV 1 hts gX5_canRise_X5_lacks rfl rfl rfl hd_X5_lacks ⟨Nat.le_of_ble_eq_true rfl, Nat.le_of_ble_eq_true rfl⟩) (va_recv hK hP (ci := 5) (q0 := 0) rfl cM_at0) (Ln.id rfl) hA hK hP hD hS rfl hl.1 rfl rfl (Nat.le_of_ble_eq_true rfl) dX5_canRise_16 (fun H locs hP hD hS => ?_)
    refine lv_icmp_lt (tgt := 26) hx hb dX5_canRise_19 (by decide) (fun c_5 => ?_) (fun c_5 => ?_)
    · replace hf := if_t c_5 hf
      refine lv_iconst (v := 0) hx hb dX5_canRise_26 (by decide) ?_
      exact hend (0 : Int32) H locs _ _ hf hP hS dX5_canRise_27
    · replace hf := if_f c_5 hf
      refine lv_iconst (v := 1) hx hb dX5_canRise_22 (by decide) ?_
      refine lv_goto (tgt := 27) hx hb dX5_canRise_23 (by decide) ?_
      exact hend (1 : Int32) H locs _ _ hf hP hS dX5_canRise_27

def f_X5_fixture (M : St) : Option (Int32) := (lp (fun (nx4 : (Int32 × Int32) → Option (Int32)) (q4 : Int32 × Int32) => (if (M 16 0) ≤ q4.2 then (some q4.1) else (gi q4.2 5 (if (M 3 (q4.2).toNatClampNeg) = 0 then (bd (f_X5_canRise M q4.2) fun a_6 => (if a_6 = 0 then (nm (q4.1 ||| ((1 : Int32) <<< (q4.2 &&& 31))) fun v_10 => (nm (q4.2 + (1 : Int32)) fun v_11 => (nx4 (v_10, v_11)))) else (nm (q4.1 ||| (0 : Int32)) fun v_8 => (nm (q4.2 + (1 : Int32)) fun v_9 => (nx4 (v_8, v_9)))))) else (nm (q4.1 ||| (0 : Int32)) fun v_4 => (nm (q4.2 + (1 : Int32)) fun v_5 => (nx4 (v_4, v_5)))))))) 1000 ((0 : Int32), (0 : Int32)))
def rm_X5_fixture : Room := { frames := 4, cells := 0, slots := 0, locals := 90 }
theorem hd_X5_fixture : yX5_fixture.cls = RX5 ∧ yX5_fixture.cls ≠ "java/lang/invoke/MethodHandle" ∧ yX5_fixture.cls ≠ "java/lang/invoke/VarHandle" ∧ (parseMethodDescriptor yX5_fixture.desc).map (fun d => d.parameters.length) = some 0 := by decide +kernel
set_option maxRecDepth 100000 in
set_option maxHeartbeats 4000000 in
theorem c_X5_fixture (l : Launch) (D : va_G) (cI : ClassId) (A : Nat → Nat) (M : St) (r : Int32) (hf : f_X5_fixture M = some r) : Ct l yX5_fixture wsX5_fixture rm_X5_fixture D cI (cM cI A M) (cM cI A M) [.ref (A 0)] (some (.int r)) := by
  unfold f_X5_fixture at hf
  refine Ct.ofI (cc := cX5_fixture) (maxL := 3) (by decide +kernel) rfl (Nat.le_of_ble_eq_true rfl) ?_
  intro p e s m args below meth c AA Q H locs ls hx hb hml hown hts hA hK hP hD hS hl hend0
  have hend : ∀ (r1 : Int32) (H : Heap) (locs : List Loc) (pc : Nat) (ls : Array Slot), some r1 = some r → va_P D vwCl (cM cI A M) H → va_S AA s.heap H locs → decode cX5_fixture pc = .ok (.ireturn, 1) → W p l e rm_X5_fixture s m args below meth c H locs 0 0 Q (F0 m pc ls [.int r1]) := by
    intro r1 H locs pc ls e1 hP hS hd; cases e1; exact hend0 H locs pc ls hP hS hd
  clear hend0
  have hw5 : ∀ w ∈ wsX50, w ∈ wsX5_fixture := by decide +kernel
  have k19 := hts (.fieldLink RX5 19 "AnchorsForConfessionModel" "out" "[I") (by decide +kernel)
  have k58 := hts (.fieldLink RX5 58 "AnchorsForConfessionModel" "ships" "I") (by decide +kernel)
  replace hl : lv_has ls 3 [(0, .ref (A 0))] := hl
  refine lv_iconst (v := 0) hx hb dX5_fixture_0 (by decide) ?_
  refine lv_istore_n (lv' := [(1, .int (0 : Int32)), (0, .ref (A 0))]) hx hb dX5_fixture_1 rfl hl (by decide) rfl (fun ls hl => ?_)
  refine lv_iconst (v := 0) hx hb dX5_fixture_2 (by decide) ?_
  refine lv_istore_n (lv' := [(2, .int (0 : Int32)), (1, .int (0 : Int32)), (0, .ref (A 0))]) hx hb dX5_fixture_3 rfl hl (by decide) rfl (fun ls hl => ?_)
  refine lp_ind (P := fun (q4 : Int32 × Int32) => ∀ (H : Heap) (locs : List Loc) (ls : Array Slot), va_P D vwCl (cM cI A M) H → va_D AA (cM cI A M) → va_S AA s.heap H locs → lv_has ls 3 [(0, .ref (A 0)), (1, .int q4.1), (2, .int q4.2)] → W p l e rm_X5_fixture s m args below meth c H locs 0 0 Q (F0 m 4 ls [])) hf ?_ H locs ls hP hD hS (lv_sub hl [2, 1, 0] rfl)
  clear hf hP hD hS hl
  intro nx4 ih4 q4 hf H locs ls hP hD hS hl
  refine lv_iload_n hx hb dX5_fixture_4 rfl (lv_at hl 2 rfl) ?_
  refine lv_aload_n hx hb dX5_fixture_5 rfl (lv_at hl 0 rfl) ?_
  refine va_get (D := D) (ci := 5) (v := .int (M 16 0)) (C := RX5) (T := TX5) (N := 27) hx hb hts hw5 hown hK hP 0 cM_at0 rfl 8 (by decide) k58 (fun _ h9 => h9) rfl dX5_fixture_6 ?_
  refine lv_icmp_ge (tgt := 45) hx hb dX5_fixture_9 (by decide) (fun c_1 => ?_) (fun c_1 => ?_)
  · replace hf := if_t c_1 hf
    refine lv_iload_n hx hb dX5_fixture_45 rfl (lv_at hl 1 rfl) ?_
    exact hend q4.1 H locs _ _ hf hP hS dX5_fixture_46
  · replace hf := if_f c_1 hf
    refine lv_iload_n hx hb dX5_fixture_12 rfl (lv_at hl 1 rfl) ?_
    refine lv_aload_n hx hb dX5_fixture_13 rfl (lv_at hl 0 rfl) ?_
    refine va_get (D := D) (ci := 5) (v := .ref (A 4)) (C := RX5) (T := TX5) (N := 27) hx hb hts hw5 hown hK hP 0 cM_at0 rfl 3 (by decide) k19 (fun _ h9 => h9) rfl dX5_fixture_14 ?_
    refine lv_iload_n hx hb dX5_fixture_17 rfl (lv_at hl 2 rfl) ?_
    obtain ⟨c_2, hf⟩ := gi_e hf
    refine va_iald hx hb hK hP 4 0 cM_at4 rfl c_2 dX5_fixture_18 ?_
    refine lv_if_ne (tgt := 36) hx hb dX5_fixture_19 (by decide) (fun c_3 => ?_) (fun c_3 => ?_)
    · replace hf := if_f c_3 hf
      refine lv_iconst (v := 0) hx hb dX5_fixture_36 (by decide) ?_
      refine lv_ior hx hb dX5_fixture_37 ?_
      refine lv_topi (fun v_4 ev_4 => ?_)
      replace hf := nm_at ev_4 hf
      refine lv_istore_n (lv' := [(1, .int v_4), (0, .ref (A 0)), (2, .int q4.2)]) hx hb dX5_fixture_38 rfl hl (by decide) rfl (fun ls hl => ?_)
      obtain ⟨v_5, ev_5, hf⟩ := nm_e hf
      refine lv_iinc (v := v_5) (lv' := [(2, .int v_5), (1, .int v_4), (0, .ref (A 0))]) hx hb dX5_fixture_39 hl (k := 2) rfl (by rw [ev_5]; rfl) (by decide) rfl (fun ls hl => ?_)
      refine lv_goto (tgt := 4) hx hb dX5_fixture_42 (by decide) ?_
      exact ih4 (v_4, v_5) hf H locs ls hP hD hS (lv_sub hl [2, 1, 0] rfl)
    · replace hf := if_t c_3 hf
      refine lv_aload_n hx hb dX5_fixture_22 rfl (lv_at hl 0 rfl) ?_
      refine lv_iload_n hx hb dX5_fixture_23 rfl (lv_at hl 2 rfl) ?_
      obtain ⟨a_6, ha_6, hf⟩ := bd_e hf
      refine Ct.callV (As := [.int q4.2]) (rest := [.int q4.1]) (st1 := [.int a_6, .int q4.1]) (c_X5_canRise l D cI A M q4.2 a_6 ha_6) hx hb hml hown hts (cwV 1 hts gX5_fixture_X5_canRise rfl rfl rfl hd_X5_canRise ⟨Nat.le_of_ble_eq_true rfl, Nat.le_of_ble_eq_true rfl⟩) (va_recv hK hP (ci := 5) (q0 := 0) rfl cM_at0) (Ln.id rfl) hA hK hP hD hS rfl hl.1 rfl rfl (Nat.le_of_ble_eq_true rfl) dX5_fixture_24 (fun H locs hP hD hS => ?_)
      refine lv_if_ne (tgt := 36) hx hb dX5_fixture_27 (by decide) (fun c_7 => ?_) (fun c_7 => ?_)
      · replace hf := if_f c_7 hf
        refine lv_iconst (v := 0) hx hb dX5_fixture_36 (by decide) ?_
        refine lv_ior hx hb dX5_fixture_37 ?_
        refine lv_topi (fun v_8 ev_8 => ?_)
        replace hf := nm_at ev_8 hf
        refine lv_istore_n (lv' := [(1, .int v_8), (0, .ref (A 0)), (2, .int q4.2)]) hx hb dX5_fixture_38 rfl hl (by decide) rfl (fun ls hl => ?_)
        obtain ⟨v_9, ev_9, hf⟩ := nm_e hf
        refine lv_iinc (v := v_9) (lv' := [(2, .int v_9), (1, .int v_8), (0, .ref (A 0))]) hx hb dX5_fixture_39 hl (k := 2) rfl (by rw [ev_9]; rfl) (by decide) rfl (fun ls hl => ?_)
        refine lv_goto (tgt := 4) hx hb dX5_fixture_42 (by decide) ?_
        exact ih4 (v_8, v_9) hf H locs ls hP hD hS (lv_sub hl [2, 1, 0] rfl)
      · replace hf := if_t c_7 hf
        refine lv_iconst (v := 1) hx hb dX5_fixture_30 (by decide) ?_
        refine lv_iload_n hx hb dX5_fixture_31 rfl (lv_at hl 2 rfl) ?_
        refine lv_ishl hx hb dX5_fixture_32 ?_
        refine lv_goto (tgt := 37) hx hb dX5_fixture_33 (by decide) ?_
        refine lv_ior hx hb dX5_fixture_37 ?_
        refine lv_topi (fun v_10 ev_10 => ?_)
        replace hf := nm_at ev_10 hf
        refine lv_istore_n (lv' := [(1, .int v_10), (0, .ref (A 0)), (2, .int q4.2)]) hx hb dX5_fixture_38 rfl hl (by decide) rfl (fun ls hl => ?_)
        obtain ⟨v_11, ev_11, hf⟩ := nm_e hf
        refine lv_iinc (v := v_11) (lv' := [(2, .int v_11), (1, .int v_10), (0, .ref (A 0))]) hx hb dX5_fixture_39 hl (k := 2) rfl (by rw [ev_11]; rfl) (by decide) rfl (fun ls hl => ?_)
        refine lv_goto (tgt := 4) hx hb dX5_fixture_42 (by decide) ?_
        exact ih4 (v_10, v_11) hf H locs ls hP hD hS (lv_sub hl [2, 1, 0] rfl)

def f_X5_loudestLeft (M : St) (p1 : Int32) : Option (Int32) := (lp (fun (nx5 : (Int32 × Int32) → Option (Int32)) (q5 : Int32 × Int32) => (if (M 16 1) ≤ q5.2 then (some q5.1) else (gi q5.2 8 (if (M 7 (q5.2).toNatClampNeg) = p1 then (gi q5.2 8 (gi q5.2 8 (if (M 6 (q5.2).toNatClampNeg) ≤ (M 13 (q5.2).toNatClampNeg) then (nm (q5.2 + (1 : Int32)) fun v_8 => (nx5 (q5.1, v_8))) else (bd (f_X5_worth M q5.2) fun a_9 => (if a_9 ≤ 0 then (nm (q5.2 + (1 : Int32)) fun v_11 => (nx5 (q5.1, v_11))) else (if q5.1 < 0 then (nm (q5.2 + (1 : Int32)) fun v_13 => (nx5 (q5.2, v_13))) else (bd (f_X5_worth M q5.2) fun a_14 => (bd (f_X5_worth M q5.1) fun a_15 => (if a_14 ≤ a_15 then (nm (q5.2 + (1 : Int32)) fun v_17 => (nx5 (q5.1, v_17))) else (nm (q5.2 + (1 : Int32)) fun v_18 => (nx5 (q5.2, v_18)))))))))))) else (nm (q5.2 + (1 : Int32)) fun v_4 => (nx5 (q5.1, v_4))))))) 1000 ((-9 : Int32), (0 : Int32)))
def rm_X5_loudestLeft : Room := { frames := 2, cells := 0, slots := 0, locals := 45 }
theorem hd_X5_loudestLeft : yX5_loudestLeft.cls = RX5 ∧ yX5_loudestLeft.cls ≠ "java/lang/invoke/MethodHandle" ∧ yX5_loudestLeft.cls ≠ "java/lang/invoke/VarHandle" ∧ (parseMethodDescriptor yX5_loudestLeft.desc).map (fun d => d.parameters.length) = some 1 := by decide +kernel
set_option maxRecDepth 100000 in
set_option maxHeartbeats 4000000 in
theorem c_X5_loudestLeft (l : Launch) (D : va_G) (cI : ClassId) (A : Nat → Nat) (M : St) (p1 : Int32) (r : Int32) (hf : f_X5_loudestLeft M p1 = some r) : Ct l yX5_loudestLeft wsX5_loudestLeft rm_X5_loudestLeft D cI (cM cI A M) (cM cI A M) [.ref (A 0), .int p1] (some (.int r)) := by
  unfold f_X5_loudestLeft at hf
  refine Ct.ofI (cc := cX5_loudestLeft) (maxL := 4) (by decide +kernel) rfl (Nat.le_of_ble_eq_true rfl) ?_
  intro p e s m args below meth c AA Q H locs ls hx hb hml hown hts hA hK hP hD hS hl hend0
  have hend : ∀ (r1 : Int32) (H : Heap) (locs : List Loc) (pc : Nat) (ls : Array Slot), some r1 = some r → va_P D vwCl (cM cI A M) H → va_S AA s.heap H locs → decode cX5_loudestLeft pc = .ok (.ireturn, 1) → W p l e rm_X5_loudestLeft s m args below meth c H locs 0 0 Q (F0 m pc ls [.int r1]) := by
    intro r1 H locs pc ls e1 hP hS hd; cases e1; exact hend0 H locs pc ls hP hS hd
  clear hend0
  have hw5 : ∀ w ∈ wsX50, w ∈ wsX5_loudestLeft := by decide +kernel
  have k28 := hts (.fieldLink RX5 28 "AnchorsForConfessionModel" "sins" "[I") (by decide +kernel)
  have k31 := hts (.fieldLink RX5 31 "AnchorsForConfessionModel" "aboard" "[I") (by decide +kernel)
  have k49 := hts (.fieldLink RX5 49 "AnchorsForConfessionModel" "words" "[I") (by decide +kernel)
  have k65 := hts (.fieldLink RX5 65 "AnchorsForConfessionModel" "men" "I") (by decide +kernel)
  replace hl : lv_has ls 4 [(0, .ref (A 0)), (1, .int p1)] := hl
  refine lv_bipush (v := -9) hx hb dX5_loudestLeft_0 (by decide +kernel) ?_
  refine lv_istore_n (lv' := [(2, .int (-9 : Int32)), (0, .ref (A 0)), (1, .int p1)]) hx hb dX5_loudestLeft_2 rfl hl (by decide) rfl (fun ls hl => ?_)
  refine lv_iconst (v := 0) hx hb dX5_loudestLeft_3 (by decide) ?_
  refine lv_istore_n (lv' := [(3, .int (0 : Int32)), (2, .int (-9 : Int32)), (0, .ref (A 0)), (1, .int p1)]) hx hb dX5_loudestLeft_4 rfl hl (by decide) rfl (fun ls hl => ?_)
  refine lp_ind (P := fun (q5 : Int32 × Int32) => ∀ (H : Heap) (locs : List Loc) (ls : Array Slot), va_P D vwCl (cM cI A M) H → va_D AA (cM cI A M) → va_S AA s.heap H locs → lv_has ls 4 [(0, .ref (A 0)), (1, .int p1), (2, .int q5.1), (3, .int q5.2)] → W p l e rm_X5_loudestLeft s m args below meth c H locs 0 0 Q (F0 m 5 ls [])) hf ?_ H locs ls hP hD hS (lv_sub hl [2, 3, 1, 0] rfl)
  clear hf hP hD hS hl
  intro nx5 ih5 q5 hf H locs ls hP hD hS hl
  refine lv_iload_n hx hb dX5_loudestLeft_5 rfl (lv_at hl 3 rfl) ?_
  refine lv_aload_n hx hb dX5_loudestLeft_6 rfl (lv_at hl 0 rfl) ?_
  refine va_get (D := D) (ci := 5) (v := .int (M 16 1)) (C := RX5) (T := TX5) (N := 27) hx hb hts hw5 hown hK hP 0 cM_at0 rfl 9 (by decide) k65 (fun _ h9 => h9) rfl dX5_loudestLeft_7 ?_
  refine lv_icmp_ge (tgt := 71) hx hb dX5_loudestLeft_10 (by decide) (fun c_1 => ?_) (fun c_1 => ?_)
  · replace hf := if_t c_1 hf
    refine lv_iload_n hx hb dX5_loudestLeft_71 rfl (lv_at hl 2 rfl) ?_
    exact hend q5.1 H locs _ _ hf hP hS dX5_loudestLeft_72
  · replace hf := if_f c_1 hf
    refine lv_aload_n hx hb dX5_loudestLeft_13 rfl (lv_at hl 0 rfl) ?_
    refine va_get (D := D) (ci := 5) (v := .ref (A 8)) (C := RX5) (T := TX5) (N := 27) hx hb hts hw5 hown hK hP 0 cM_at0 rfl 7 (by decide) k31 (fun _ h9 => h9) rfl dX5_loudestLeft_14 ?_
    refine lv_iload_n hx hb dX5_loudestLeft_17 rfl (lv_at hl 3 rfl) ?_
    obtain ⟨c_2, hf⟩ := gi_e hf
    refine va_iald hx hb hK hP 8 0 cM_at8 rfl c_2 dX5_loudestLeft_18 ?_
    refine lv_iload_n hx hb dX5_loudestLeft_19 rfl (lv_at hl 1 rfl) ?_
    refine lv_icmp_ne (tgt := 65) hx hb dX5_loudestLeft_20 (by decide) (fun c_3 => ?_) (fun c_3 => ?_)
    · replace hf := if_f c_3 hf
      obtain ⟨v_4, ev_4, hf⟩ := nm_e hf
      refine lv_iinc (v := v_4) (lv' := [(3, .int v_4), (0, .ref (A 0)), (1, .int p1), (2, .int q5.1)]) hx hb dX5_loudestLeft_65 hl (k := 3) rfl (by rw [ev_4]; rfl) (by decide) rfl (fun ls hl => ?_)
      refine lv_goto (tgt := 5) hx hb dX5_loudestLeft_68 (by decide) ?_
      exact ih5 (q5.1, v_4) hf H locs ls hP hD hS (lv_sub hl [1, 2, 3, 0] rfl)
    · replace hf := if_t c_3 hf
      refine lv_aload_n hx hb dX5_loudestLeft_23 rfl (lv_at hl 0 rfl) ?_
      refine va_get (D := D) (ci := 5) (v := .ref (A 14)) (C := RX5) (T := TX5) (N := 27) hx hb hts hw5 hown hK hP 0 cM_at0 rfl 23 (by decide) k49 (fun _ h9 => h9) rfl dX5_loudestLeft_24 ?_
      refine lv_iload_n hx hb dX5_loudestLeft_27 rfl (lv_at hl 3 rfl) ?_
      obtain ⟨c_5, hf⟩ := gi_e hf
      refine va_iald hx hb hK hP 14 0 cM_at14 rfl c_5 dX5_loudestLeft_28 ?_
      refine lv_aload_n hx hb dX5_loudestLeft_29 rfl (lv_at hl 0 rfl) ?_
      refine va_get (D := D) (ci := 5) (v := .ref (A 7)) (C := RX5) (T := TX5) (N := 27) hx hb hts hw5 hown hK hP 0 cM_at0 rfl 6 (by decide) k28 (fun _ h9 => h9) rfl dX5_loudestLeft_30 ?_
      refine lv_iload_n hx hb dX5_loudestLeft_33 rfl (lv_at hl 3 rfl) ?_
      obtain ⟨c_6, hf⟩ := gi_e hf
      refine va_iald hx hb hK hP 7 0 cM_at7 rfl c_6 dX5_loudestLeft_34 ?_
      refine lv_icmp_ge (tgt := 65) hx hb dX5_loudestLeft_35 (by decide) (fun c_7 => ?_) (fun c_7 => ?_)
      · replace hf := if_t c_7 hf
        obtain ⟨v_8, ev_8, hf⟩ := nm_e hf
        refine lv_iinc (v := v_8) (lv' := [(3, .int v_8), (0, .ref (A 0)), (1, .int p1), (2, .int q5.1)]) hx hb dX5_loudestLeft_65 hl (k := 3) rfl (by rw [ev_8]; rfl) (by decide) rfl (fun ls hl => ?_)
        refine lv_goto (tgt := 5) hx hb dX5_loudestLeft_68 (by decide) ?_
        exact ih5 (q5.1, v_8) hf H locs ls hP hD hS (lv_sub hl [1, 2, 3, 0] rfl)
      · replace hf := if_f c_7 hf
        refine lv_aload_n hx hb dX5_loudestLeft_38 rfl (lv_at hl 0 rfl) ?_
        refine lv_iload_n hx hb dX5_loudestLeft_39 rfl (lv_at hl 3 rfl) ?_
        obtain ⟨a_9, ha_9, hf⟩ := bd_e hf
        refine Ct.callV (As := [.int q5.2]) (rest := []) (st1 := [.int a_9]) (c_X5_worth l D cI A M q5.2 a_9 ha_9) hx hb hml hown hts (cwV 1 hts gX5_loudestLeft_X5_worth rfl rfl rfl hd_X5_worth ⟨Nat.le_of_ble_eq_true rfl, Nat.le_of_ble_eq_true rfl⟩) (va_recv hK hP (ci := 5) (q0 := 0) rfl cM_at0) (Ln.id rfl) hA hK hP hD hS rfl hl.1 rfl rfl (Nat.le_of_ble_eq_true rfl) dX5_loudestLeft_40 (fun H locs hP hD hS => ?_)
        refine lv_if_le (tgt := 65) hx hb dX5_loudestLeft_43 (by decide) (fun c_10 => ?_) (fun c_10 => ?_)
        · replace hf := if_t c_10 hf
          obtain ⟨v_11, ev_11, hf⟩ := nm_e hf
          refine lv_iinc (v := v_11) (lv' := [(3, .int v_11), (0, .ref (A 0)), (1, .int p1), (2, .int q5.1)]) hx hb dX5_loudestLeft_65 hl (k := 3) rfl (by rw [ev_11]; rfl) (by decide) rfl (fun ls hl => ?_)
          refine lv_goto (tgt := 5) hx hb dX5_loudestLeft_68 (by decide) ?_
          exact ih5 (q5.1, v_11) hf H locs ls hP hD hS (lv_sub hl [1, 2, 3, 0] rfl)
        · replace hf := if_f c_10 hf
          refine lv_iload_n hx hb dX5_loudestLeft_46 rfl (lv_at hl 2 rfl) ?_
          refine lv_if_lt (tgt := 63) hx hb dX5_loudestLeft_47 (by decide) (fun c_12 => ?_) (fun c_12 => ?_)
          · replace hf := if_t c_12 hf
            refine lv_iload_n hx hb dX5_loudestLeft_63 rfl (lv_at hl 3 rfl) ?_
            refine lv_istore_n (lv' := [(2, .int q5.2), (0, .ref (A 0)), (1, .int p1), (3, .int q5.2)]) hx hb dX5_loudestLeft_64 rfl hl (by decide) rfl (fun ls hl => ?_)
            obtain ⟨v_13, ev_13, hf⟩ := nm_e hf
            refine lv_iinc (v := v_13) (lv' := [(3, .int v_13), (2, .int q5.2), (0, .ref (A 0)), (1, .int p1)]) hx hb dX5_loudestLeft_65 hl (k := 3) rfl (by rw [ev_13]; rfl) (by decide) rfl (fun ls hl => ?_)
            refine lv_goto (tgt := 5) hx hb dX5_loudestLeft_68 (by decide) ?_
            exact ih5 (q5.2, v_13) hf H locs ls hP hD hS (lv_sub hl [2, 3, 1, 0] rfl)
          · replace hf := if_f c_12 hf
            refine lv_aload_n hx hb dX5_loudestLeft_50 rfl (lv_at hl 0 rfl) ?_
            refine lv_iload_n hx hb dX5_loudestLeft_51 rfl (lv_at hl 3 rfl) ?_
            obtain ⟨a_14, ha_14, hf⟩ := bd_e hf
            refine Ct.callV (As := [.int q5.2]) (rest := []) (st1 := [.int a_14]) (c_X5_worth l D cI A M q5.2 a_14 ha_14) hx hb hml hown hts (cwV 1 hts gX5_loudestLeft_X5_worth rfl rfl rfl hd_X5_worth ⟨Nat.le_of_ble_eq_true rfl, Nat.le_of_ble_eq_true rfl⟩) (va_recv hK hP (ci := 5) (q0 := 0) rfl cM_at0) (Ln.id rfl) hA hK hP hD hS rfl hl.1 rfl rfl (Nat.le_of_ble_eq_true rfl) dX5_loudestLeft_52 (fun H locs hP hD hS => ?_)
            refine lv_aload_n hx hb dX5_loudestLeft_55 rfl (lv_at hl 0 rfl) ?_
            refine lv_iload_n hx hb dX5_loudestLeft_56 rfl (lv_at hl 2 rfl) ?_
            obtain ⟨a_15, ha_15, hf⟩ := bd_e hf
            refine Ct.callV (As := [.int q5.1]) (rest := [.int a_14]) (st1 := [.int a_15, .int a_14]) (c_X5_worth l D cI A M q5.1 a_15 ha_15) hx hb hml hown hts (cwV 1 hts gX5_loudestLeft_X5_worth rfl rfl rfl hd_X5_worth ⟨Nat.le_of_ble_eq_true rfl, Nat.le_of_ble_eq_true rfl⟩) (va_recv hK hP (ci := 5) (q0 := 0) rfl cM_at0) (Ln.id rfl) hA hK hP hD hS rfl hl.1 rfl rfl (Nat.le_of_ble_eq_true rfl) dX5_loudestLeft_57 (fun H locs hP hD hS => ?_)
            refine lv_icmp_le (tgt := 65) hx hb dX5_loudestLeft_60 (by decide) (fun c_16 => ?_) (fun c_16 => ?_)
            · replace hf := if_t c_16 hf
              obtain ⟨v_17, ev_17, hf⟩ := nm_e hf
              refine lv_iinc (v := v_17) (lv' := [(3, .int v_17), (0, .ref (A 0)), (1, .int p1), (2, .int q5.1)]) hx hb dX5_loudestLeft_65 hl (k := 3) rfl (by rw [ev_17]; rfl) (by decide) rfl (fun ls hl => ?_)
              refine lv_goto (tgt := 5) hx hb dX5_loudestLeft_68 (by decide) ?_
              exact ih5 (q5.1, v_17) hf H locs ls hP hD hS (lv_sub hl [1, 2, 3, 0] rfl)
            · replace hf := if_f c_16 hf
              refine lv_iload_n hx hb dX5_loudestLeft_63 rfl (lv_at hl 3 rfl) ?_
              refine lv_istore_n (lv' := [(2, .int q5.2), (0, .ref (A 0)), (1, .int p1), (3, .int q5.2)]) hx hb dX5_loudestLeft_64 rfl hl (by decide) rfl (fun ls hl => ?_)
              obtain ⟨v_18, ev_18, hf⟩ := nm_e hf
              refine lv_iinc (v := v_18) (lv' := [(3, .int v_18), (2, .int q5.2), (0, .ref (A 0)), (1, .int p1)]) hx hb dX5_loudestLeft_65 hl (k := 3) rfl (by rw [ev_18]; rfl) (by decide) rfl (fun ls hl => ?_)
              refine lv_goto (tgt := 5) hx hb dX5_loudestLeft_68 (by decide) ?_
              exact ih5 (q5.2, v_18) hf H locs ls hP hD hS (lv_sub hl [2, 3, 1, 0] rfl)

def f_X5_fewestOf (M : St) (p1 : Int32) : Option (Int32 × St) := (lp (fun (nx2 : (Int32 × St) → Option (Int32 × St)) (q2 : Int32 × St) => (if (8 : Int32) ≤ q2.1 then (bd (f_X5_lacks q2.2 p1) fun a_2 => (lp (fun (nx29 : (Int32 × Int32 × St) → Option (Int32 × St)) (q29 : Int32 × Int32 × St) => (if q29.1 ≤ 0 then (some (q29.2.1, q29.2.2)) else (bd (f_X5_loudestLeft q29.2.2 p1) fun a_4 => (if 0 ≤ a_4 then (gi a_4 8 (gi a_4 8 (nm (su q29.2.2 13 (a_4).toNatClampNeg ((q29.2.2 13 (a_4).toNatClampNeg) + (1 : Int32))) fun h_8 => (bd (f_X5_worth h_8 a_4) fun a_9 => (nm (q29.1 - a_9) fun v_10 => (nm (q29.2.1 + (1 : Int32)) fun v_11 => (nx29 (v_10, v_11, h_8)))))))) else (some ((-9 : Int32), q29.2.2)))))) 1000 (a_2, (0 : Int32), q2.2))) else (gi q2.1 8 (nm (su q2.2 13 (q2.1).toNatClampNeg (0 : Int32)) fun h_13 => (nm (q2.1 + (1 : Int32)) fun v_14 => (nx2 (v_14, h_13))))))) 1000 ((0 : Int32), M))
def rm_X5_fewestOf : Room := { frames := 3, cells := 0, slots := 0, locals := 68 }
theorem hd_X5_fewestOf : yX5_fewestOf.cls = RX5 ∧ yX5_fewestOf.cls ≠ "java/lang/invoke/MethodHandle" ∧ yX5_fewestOf.cls ≠ "java/lang/invoke/VarHandle" ∧ (parseMethodDescriptor yX5_fewestOf.desc).map (fun d => d.parameters.length) = some 1 := by decide +kernel
set_option maxRecDepth 100000 in
set_option maxHeartbeats 4000000 in
theorem c_X5_fewestOf (l : Launch) (D : va_G) (cI : ClassId) (A : Nat → Nat) (M : St) (p1 : Int32) (r : Int32 × St) (hf : f_X5_fewestOf M p1 = some r) : Ct l yX5_fewestOf wsX5_fewestOf rm_X5_fewestOf D cI (cM cI A M) (cM cI A r.2) [.ref (A 0), .int p1] (some (.int r.1)) := by
  unfold f_X5_fewestOf at hf
  refine Ct.ofI (cc := cX5_fewestOf) (maxL := 5) (by decide +kernel) rfl (Nat.le_of_ble_eq_true rfl) ?_
  intro p e s m args below meth c AA Q H locs ls hx hb hml hown hts hA hK hP hD hS hl hend0
  have hend : ∀ (r1 : Int32 × St) (H : Heap) (locs : List Loc) (pc : Nat) (ls : Array Slot), some r1 = some r → va_P D vwCl (cM cI A r1.2) H → va_S AA s.heap H locs → decode cX5_fewestOf pc = .ok (.ireturn, 1) → W p l e rm_X5_fewestOf s m args below meth c H locs 0 0 Q (F0 m pc ls [.int r1.1]) := by
    intro r1 H locs pc ls e1 hP hS hd; cases e1; exact hend0 H locs pc ls hP hS hd
  clear hend0
  have hw5 : ∀ w ∈ wsX50, w ∈ wsX5_fewestOf := by decide +kernel
  have k49 := hts (.fieldLink RX5 49 "AnchorsForConfessionModel" "words" "[I") (by decide +kernel)
  replace hl : lv_has ls 5 [(0, .ref (A 0)), (1, .int p1)] := hl
  refine lv_iconst (v := 0) hx hb dX5_fewestOf_0 (by decide) ?_
  refine lv_istore_n (lv' := [(2, .int (0 : Int32)), (0, .ref (A 0)), (1, .int p1)]) hx hb dX5_fewestOf_1 rfl hl (by decide) rfl (fun ls hl => ?_)
  refine lp_ind (P := fun (q2 : Int32 × St) => ∀ (H : Heap) (locs : List Loc) (ls : Array Slot), va_P D vwCl (cM cI A q2.2) H → va_D AA (cM cI A q2.2) → va_S AA s.heap H locs → lv_has ls 5 [(0, .ref (A 0)), (1, .int p1), (2, .int q2.1)] → W p l e rm_X5_fewestOf s m args below meth c H locs 0 0 Q (F0 m 2 ls [])) hf ?_ H locs ls hP hD hS (lv_sub hl [1, 2, 0] rfl)
  clear hf hP hD hS hl
  intro nx2 ih2 q2 hf H locs ls hP hD hS hl
  refine lv_iload_n hx hb dX5_fewestOf_2 rfl (lv_at hl 2 rfl) ?_
  refine lv_bipush (v := 8) hx hb dX5_fewestOf_3 (by decide +kernel) ?_
  refine lv_icmp_ge (tgt := 21) hx hb dX5_fewestOf_5 (by decide) (fun c_1 => ?_) (fun c_1 => ?_)
  · replace hf := if_t c_1 hf
    refine lv_aload_n hx hb dX5_fewestOf_21 rfl (lv_at hl 0 rfl) ?_
    refine lv_iload_n hx hb dX5_fewestOf_22 rfl (lv_at hl 1 rfl) ?_
    obtain ⟨a_2, ha_2, hf⟩ := bd_e hf
    refine Ct.callV (As := [.int p1]) (rest := []) (st1 := [.int a_2]) (c_X5_lacks l D cI A q2.2 p1 a_2 ha_2) hx hb hml hown hts (cwV 1 hts gX5_fewestOf_X5_lacks rfl rfl rfl hd_X5_lacks ⟨Nat.le_of_ble_eq_true rfl, Nat.le_of_ble_eq_true rfl⟩) (va_recv hK hP (ci := 5) (q0 := 0) rfl cM_at0) (Ln.id rfl) hA hK hP hD hS rfl hl.1 rfl rfl (Nat.le_of_ble_eq_true rfl) dX5_fewestOf_23 (fun H locs hP hD hS => ?_)
    refine lv_istore_n (lv' := [(2, .int a_2), (0, .ref (A 0)), (1, .int p1)]) hx hb dX5_fewestOf_26 rfl hl (by decide) rfl (fun ls hl => ?_)
    refine lv_iconst (v := 0) hx hb dX5_fewestOf_27 (by decide) ?_
    refine lv_istore_n (lv' := [(3, .int (0 : Int32)), (2, .int a_2), (0, .ref (A 0)), (1, .int p1)]) hx hb dX5_fewestOf_28 rfl hl (by decide) rfl (fun ls hl => ?_)
    refine lp_ind (P := fun (q29 : Int32 × Int32 × St) => ∀ (H : Heap) (locs : List Loc) (ls : Array Slot), va_P D vwCl (cM cI A q29.2.2) H → va_D AA (cM cI A q29.2.2) → va_S AA s.heap H locs → lv_has ls 5 [(0, .ref (A 0)), (1, .int p1), (2, .int q29.1), (3, .int q29.2.1)] → W p l e rm_X5_fewestOf s m args below meth c H locs 0 0 Q (F0 m 29 ls [])) hf ?_ H locs ls hP hD hS (lv_sub hl [2, 3, 1, 0] rfl)
    clear hf hP hD hS hl
    intro nx29 ih29 q29 hf H locs ls hP hD hS hl
    refine lv_iload_n hx hb dX5_fewestOf_29 rfl (lv_at hl 2 rfl) ?_
    refine lv_if_le (tgt := 74) hx hb dX5_fewestOf_30 (by decide) (fun c_3 => ?_) (fun c_3 => ?_)
    · replace hf := if_t c_3 hf
      refine lv_iload_n hx hb dX5_fewestOf_74 rfl (lv_at hl 3 rfl) ?_
      exact hend (q29.2.1, q29.2.2) H locs _ _ hf hP hS dX5_fewestOf_75
    · replace hf := if_f c_3 hf
      refine lv_aload_n hx hb dX5_fewestOf_33 rfl (lv_at hl 0 rfl) ?_
      refine lv_iload_n hx hb dX5_fewestOf_34 rfl (lv_at hl 1 rfl) ?_
      obtain ⟨a_4, ha_4, hf⟩ := bd_e hf
      refine Ct.callV (As := [.int p1]) (rest := []) (st1 := [.int a_4]) (c_X5_loudestLeft l D cI A q29.2.2 p1 a_4 ha_4) hx hb hml hown hts (cwV 1 hts gX5_fewestOf_X5_loudestLeft rfl rfl rfl hd_X5_loudestLeft ⟨Nat.le_of_ble_eq_true rfl, Nat.le_of_ble_eq_true rfl⟩) (va_recv hK hP (ci := 5) (q0 := 0) rfl cM_at0) (Ln.id rfl) hA hK hP hD hS rfl hl.1 rfl rfl (Nat.le_of_ble_eq_true rfl) dX5_fewestOf_35 (fun H locs hP hD hS => ?_)
      refine lv_istore (lv' := [(4, .int a_4), (0, .ref (A 0)), (1, .int p1), (2, .int q29.1), (3, .int q29.2.1)]) hx hb dX5_fewestOf_38 hl (by decide) rfl (fun ls hl => ?_)
      refine lv_iload hx hb dX5_fewestOf_40 (lv_at hl 0 rfl) ?_
      refine lv_if_ge (tgt := 48) hx hb dX5_fewestOf_42 (by decide) (fun c_5 => ?_) (fun c_5 => ?_)
      · replace hf := if_t c_5 hf
        refine lv_aload_n hx hb dX5_fewestOf_48 rfl (lv_at hl 1 rfl) ?_
        refine va_get (D := D) (ci := 5) (v := .ref (A 14)) (C := RX5) (T := TX5) (N := 27) hx hb hts hw5 hown hK hP 0 cM_at0 rfl 23 (by decide) k49 (fun _ h9 => h9) rfl dX5_fewestOf_49 ?_
        refine lv_iload hx hb dX5_fewestOf_52 (lv_at hl 0 rfl) ?_
        refine lv_dup2_11 hx hb dX5_fewestOf_54 rfl rfl ?_
        obtain ⟨c_6, hf⟩ := gi_e hf
        refine va_iald hx hb hK hP 14 0 cM_at14 rfl c_6 dX5_fewestOf_55 ?_
        refine lv_iconst (v := 1) hx hb dX5_fewestOf_56 (by decide) ?_
        refine lv_iadd hx hb dX5_fewestOf_57 ?_
        obtain ⟨c_7, hf⟩ := gi_e hf
        refine va_iast hx hb hK hP hD hS 14 0 cM_at14 rfl c_7 dX5_fewestOf_58 (fun H locs hP hD hS => ?_)
        obtain ⟨h_8, eh_8, hf⟩ := nm_e hf
        rw [cM_su14, ← eh_8] at hP hD
        refine lv_iload_n hx hb dX5_fewestOf_59 rfl (lv_at hl 3 rfl) ?_
        refine lv_aload_n hx hb dX5_fewestOf_60 rfl (lv_at hl 1 rfl) ?_
        refine lv_iload hx hb dX5_fewestOf_61 (lv_at hl 0 rfl) ?_
        obtain ⟨a_9, ha_9, hf⟩ := bd_e hf
        refine Ct.callV (As := [.int a_4]) (rest := [.int q29.1]) (st1 := [.int a_9, .int q29.1]) (c_X5_worth l D cI A h_8 a_4 a_9 ha_9) hx hb hml hown hts (cwV 1 hts gX5_fewestOf_X5_worth rfl rfl rfl hd_X5_worth ⟨Nat.le_of_ble_eq_true rfl, Nat.le_of_ble_eq_true rfl⟩) (va_recv hK hP (ci := 5) (q0 := 0) rfl cM_at0) (Ln.id rfl) hA hK hP hD hS rfl hl.1 rfl rfl (Nat.le_of_ble_eq_true rfl) dX5_fewestOf_63 (fun H locs hP hD hS => ?_)
        refine lv_isub hx hb dX5_fewestOf_66 ?_
        refine lv_topi (fun v_10 ev_10 => ?_)
        replace hf := nm_at ev_10 hf
        refine lv_istore_n (lv' := [(2, .int v_10), (4, .int a_4), (0, .ref (A 0)), (1, .int p1), (3, .int q29.2.1)]) hx hb dX5_fewestOf_67 rfl hl (by decide) rfl (fun ls hl => ?_)
        obtain ⟨v_11, ev_11, hf⟩ := nm_e hf
        refine lv_iinc (v := v_11) (lv' := [(3, .int v_11), (2, .int v_10), (4, .int a_4), (0, .ref (A 0)), (1, .int p1)]) hx hb dX5_fewestOf_68 hl (k := 4) rfl (by rw [ev_11]; rfl) (by decide) rfl (fun ls hl => ?_)
        refine lv_goto (tgt := 29) hx hb dX5_fewestOf_71 (by decide) ?_
        exact ih29 (v_10, v_11, h_8) hf H locs ls hP hD hS (lv_sub hl [3, 4, 1, 0] rfl)
      · replace hf := if_f c_5 hf
        refine lv_bipush (v := -9) hx hb dX5_fewestOf_45 (by decide +kernel) ?_
        exact hend ((-9 : Int32), q29.2.2) H locs _ _ hf hP hS dX5_fewestOf_47
  · replace hf := if_f c_1 hf
    refine lv_aload_n hx hb dX5_fewestOf_8 rfl (lv_at hl 0 rfl) ?_
    refine va_get (D := D) (ci := 5) (v := .ref (A 14)) (C := RX5) (T := TX5) (N := 27) hx hb hts hw5 hown hK hP 0 cM_at0 rfl 23 (by decide) k49 (fun _ h9 => h9) rfl dX5_fewestOf_9 ?_
    refine lv_iload_n hx hb dX5_fewestOf_12 rfl (lv_at hl 2 rfl) ?_
    refine lv_iconst (v := 0) hx hb dX5_fewestOf_13 (by decide) ?_
    obtain ⟨c_12, hf⟩ := gi_e hf
    refine va_iast hx hb hK hP hD hS 14 0 cM_at14 rfl c_12 dX5_fewestOf_14 (fun H locs hP hD hS => ?_)
    obtain ⟨h_13, eh_13, hf⟩ := nm_e hf
    rw [cM_su14, ← eh_13] at hP hD
    obtain ⟨v_14, ev_14, hf⟩ := nm_e hf
    refine lv_iinc (v := v_14) (lv' := [(2, .int v_14), (0, .ref (A 0)), (1, .int p1)]) hx hb dX5_fewestOf_15 hl (k := 2) rfl (by rw [ev_14]; rfl) (by decide) rfl (fun ls hl => ?_)
    refine lv_goto (tgt := 2) hx hb dX5_fewestOf_18 (by decide) ?_
    exact ih2 (v_14, h_13) hf H locs ls hP hD hS (lv_sub hl [1, 2, 0] rfl)

def f_X5_tellsMost (M : St) : Option (Int32) := (lp (fun (nx5 : (Int32 × Int32) → Option (Int32)) (q5 : Int32 × Int32) => (if (M 16 1) ≤ q5.2 then (some q5.1) else (gi q5.2 8 (if (M 13 (q5.2).toNatClampNeg) ≤ 0 then (nm (q5.2 + (1 : Int32)) fun v_4 => (nx5 (q5.1, v_4))) else (if q5.1 < 0 then (nm (q5.2 + (1 : Int32)) fun v_6 => (nx5 (q5.2, v_6))) else (gi q5.2 8 (gi q5.1 8 (if (M 13 (q5.2).toNatClampNeg) ≤ (M 13 (q5.1).toNatClampNeg) then (nm (q5.2 + (1 : Int32)) fun v_10 => (nx5 (q5.1, v_10))) else (nm (q5.2 + (1 : Int32)) fun v_11 => (nx5 (q5.2, v_11))))))))))) 1000 ((-9 : Int32), (0 : Int32)))
def rm_X5_tellsMost : Room := { frames := 0, cells := 0, slots := 0, locals := 0 }
theorem hd_X5_tellsMost : yX5_tellsMost.cls = RX5 ∧ yX5_tellsMost.cls ≠ "java/lang/invoke/MethodHandle" ∧ yX5_tellsMost.cls ≠ "java/lang/invoke/VarHandle" ∧ (parseMethodDescriptor yX5_tellsMost.desc).map (fun d => d.parameters.length) = some 0 := by decide +kernel
set_option maxRecDepth 100000 in
set_option maxHeartbeats 4000000 in
theorem c_X5_tellsMost (l : Launch) (D : va_G) (cI : ClassId) (A : Nat → Nat) (M : St) (r : Int32) (hf : f_X5_tellsMost M = some r) : Ct l yX5_tellsMost wsX5_tellsMost rm_X5_tellsMost D cI (cM cI A M) (cM cI A M) [.ref (A 0)] (some (.int r)) := by
  unfold f_X5_tellsMost at hf
  refine Ct.ofI (cc := cX5_tellsMost) (maxL := 3) (by decide +kernel) rfl (Nat.le_of_ble_eq_true rfl) ?_
  intro p e s m args below meth c AA Q H locs ls hx hb hml hown hts hA hK hP hD hS hl hend0
  have hend : ∀ (r1 : Int32) (H : Heap) (locs : List Loc) (pc : Nat) (ls : Array Slot), some r1 = some r → va_P D vwCl (cM cI A M) H → va_S AA s.heap H locs → decode cX5_tellsMost pc = .ok (.ireturn, 1) → W p l e rm_X5_tellsMost s m args below meth c H locs 0 0 Q (F0 m pc ls [.int r1]) := by
    intro r1 H locs pc ls e1 hP hS hd; cases e1; exact hend0 H locs pc ls hP hS hd
  clear hend0
  have hw5 : ∀ w ∈ wsX50, w ∈ wsX5_tellsMost := by decide +kernel
  have k49 := hts (.fieldLink RX5 49 "AnchorsForConfessionModel" "words" "[I") (by decide +kernel)
  have k65 := hts (.fieldLink RX5 65 "AnchorsForConfessionModel" "men" "I") (by decide +kernel)
  replace hl : lv_has ls 3 [(0, .ref (A 0))] := hl
  refine lv_bipush (v := -9) hx hb dX5_tellsMost_0 (by decide +kernel) ?_
  refine lv_istore_n (lv' := [(1, .int (-9 : Int32)), (0, .ref (A 0))]) hx hb dX5_tellsMost_2 rfl hl (by decide) rfl (fun ls hl => ?_)
  refine lv_iconst (v := 0) hx hb dX5_tellsMost_3 (by decide) ?_
  refine lv_istore_n (lv' := [(2, .int (0 : Int32)), (1, .int (-9 : Int32)), (0, .ref (A 0))]) hx hb dX5_tellsMost_4 rfl hl (by decide) rfl (fun ls hl => ?_)
  refine lp_ind (P := fun (q5 : Int32 × Int32) => ∀ (H : Heap) (locs : List Loc) (ls : Array Slot), va_P D vwCl (cM cI A M) H → va_D AA (cM cI A M) → va_S AA s.heap H locs → lv_has ls 3 [(0, .ref (A 0)), (1, .int q5.1), (2, .int q5.2)] → W p l e rm_X5_tellsMost s m args below meth c H locs 0 0 Q (F0 m 5 ls [])) hf ?_ H locs ls hP hD hS (lv_sub hl [2, 1, 0] rfl)
  clear hf hP hD hS hl
  intro nx5 ih5 q5 hf H locs ls hP hD hS hl
  refine lv_iload_n hx hb dX5_tellsMost_5 rfl (lv_at hl 2 rfl) ?_
  refine lv_aload_n hx hb dX5_tellsMost_6 rfl (lv_at hl 0 rfl) ?_
  refine va_get (D := D) (ci := 5) (v := .int (M 16 1)) (C := RX5) (T := TX5) (N := 27) hx hb hts hw5 hown hK hP 0 cM_at0 rfl 9 (by decide) k65 (fun _ h9 => h9) rfl dX5_tellsMost_7 ?_
  refine lv_icmp_ge (tgt := 53) hx hb dX5_tellsMost_10 (by decide) (fun c_1 => ?_) (fun c_1 => ?_)
  · replace hf := if_t c_1 hf
    refine lv_iload_n hx hb dX5_tellsMost_53 rfl (lv_at hl 1 rfl) ?_
    exact hend q5.1 H locs _ _ hf hP hS dX5_tellsMost_54
  · replace hf := if_f c_1 hf
    refine lv_aload_n hx hb dX5_tellsMost_13 rfl (lv_at hl 0 rfl) ?_
    refine va_get (D := D) (ci := 5) (v := .ref (A 14)) (C := RX5) (T := TX5) (N := 27) hx hb hts hw5 hown hK hP 0 cM_at0 rfl 23 (by decide) k49 (fun _ h9 => h9) rfl dX5_tellsMost_14 ?_
    refine lv_iload_n hx hb dX5_tellsMost_17 rfl (lv_at hl 2 rfl) ?_
    obtain ⟨c_2, hf⟩ := gi_e hf
    refine va_iald hx hb hK hP 14 0 cM_at14 rfl c_2 dX5_tellsMost_18 ?_
    refine lv_if_le (tgt := 45) hx hb dX5_tellsMost_19 (by decide) (fun c_3 => ?_) (fun c_3 => ?_)
    · replace hf := if_t c_3 hf
      refine lv_iload_n hx hb dX5_tellsMost_45 rfl (lv_at hl 1 rfl) ?_
      refine lv_istore_n (lv' := [(1, .int q5.1), (0, .ref (A 0)), (2, .int q5.2)]) hx hb dX5_tellsMost_46 rfl hl (by decide) rfl (fun ls hl => ?_)
      obtain ⟨v_4, ev_4, hf⟩ := nm_e hf
      refine lv_iinc (v := v_4) (lv' := [(2, .int v_4), (1, .int q5.1), (0, .ref (A 0))]) hx hb dX5_tellsMost_47 hl (k := 2) rfl (by rw [ev_4]; rfl) (by decide) rfl (fun ls hl => ?_)
      refine lv_goto (tgt := 5) hx hb dX5_tellsMost_50 (by decide) ?_
      exact ih5 (q5.1, v_4) hf H locs ls hP hD hS (lv_sub hl [2, 1, 0] rfl)
    · replace hf := if_f c_3 hf
      refine lv_iload_n hx hb dX5_tellsMost_22 rfl (lv_at hl 1 rfl) ?_
      refine lv_if_lt (tgt := 41) hx hb dX5_tellsMost_23 (by decide) (fun c_5 => ?_) (fun c_5 => ?_)
      · replace hf := if_t c_5 hf
        refine lv_iload_n hx hb dX5_tellsMost_41 rfl (lv_at hl 2 rfl) ?_
        refine lv_goto (tgt := 46) hx hb dX5_tellsMost_42 (by decide) ?_
        refine lv_istore_n (lv' := [(1, .int q5.2), (0, .ref (A 0)), (2, .int q5.2)]) hx hb dX5_tellsMost_46 rfl hl (by decide) rfl (fun ls hl => ?_)
        obtain ⟨v_6, ev_6, hf⟩ := nm_e hf
        refine lv_iinc (v := v_6) (lv' := [(2, .int v_6), (1, .int q5.2), (0, .ref (A 0))]) hx hb dX5_tellsMost_47 hl (k := 2) rfl (by rw [ev_6]; rfl) (by decide) rfl (fun ls hl => ?_)
        refine lv_goto (tgt := 5) hx hb dX5_tellsMost_50 (by decide) ?_
        exact ih5 (q5.2, v_6) hf H locs ls hP hD hS (lv_sub hl [2, 1, 0] rfl)
      · replace hf := if_f c_5 hf
        refine lv_aload_n hx hb dX5_tellsMost_26 rfl (lv_at hl 0 rfl) ?_
        refine va_get (D := D) (ci := 5) (v := .ref (A 14)) (C := RX5) (T := TX5) (N := 27) hx hb hts hw5 hown hK hP 0 cM_at0 rfl 23 (by decide) k49 (fun _ h9 => h9) rfl dX5_tellsMost_27 ?_
        refine lv_iload_n hx hb dX5_tellsMost_30 rfl (lv_at hl 2 rfl) ?_
        obtain ⟨c_7, hf⟩ := gi_e hf
        refine va_iald hx hb hK hP 14 0 cM_at14 rfl c_7 dX5_tellsMost_31 ?_
        refine lv_aload_n hx hb dX5_tellsMost_32 rfl (lv_at hl 0 rfl) ?_
        refine va_get (D := D) (ci := 5) (v := .ref (A 14)) (C := RX5) (T := TX5) (N := 27) hx hb hts hw5 hown hK hP 0 cM_at0 rfl 23 (by decide) k49 (fun _ h9 => h9) rfl dX5_tellsMost_33 ?_
        refine lv_iload_n hx hb dX5_tellsMost_36 rfl (lv_at hl 1 rfl) ?_
        obtain ⟨c_8, hf⟩ := gi_e hf
        refine va_iald hx hb hK hP 14 0 cM_at14 rfl c_8 dX5_tellsMost_37 ?_
        refine lv_icmp_le (tgt := 45) hx hb dX5_tellsMost_38 (by decide) (fun c_9 => ?_) (fun c_9 => ?_)
        · replace hf := if_t c_9 hf
          refine lv_iload_n hx hb dX5_tellsMost_45 rfl (lv_at hl 1 rfl) ?_
          refine lv_istore_n (lv' := [(1, .int q5.1), (0, .ref (A 0)), (2, .int q5.2)]) hx hb dX5_tellsMost_46 rfl hl (by decide) rfl (fun ls hl => ?_)
          obtain ⟨v_10, ev_10, hf⟩ := nm_e hf
          refine lv_iinc (v := v_10) (lv' := [(2, .int v_10), (1, .int q5.1), (0, .ref (A 0))]) hx hb dX5_tellsMost_47 hl (k := 2) rfl (by rw [ev_10]; rfl) (by decide) rfl (fun ls hl => ?_)
          refine lv_goto (tgt := 5) hx hb dX5_tellsMost_50 (by decide) ?_
          exact ih5 (q5.1, v_10) hf H locs ls hP hD hS (lv_sub hl [2, 1, 0] rfl)
        · replace hf := if_f c_9 hf
          refine lv_iload_n hx hb dX5_tellsMost_41 rfl (lv_at hl 2 rfl) ?_
          refine lv_goto (tgt := 46) hx hb dX5_tellsMost_42 (by decide) ?_
          refine lv_istore_n (lv' := [(1, .int q5.2), (0, .ref (A 0)), (2, .int q5.2)]) hx hb dX5_tellsMost_46 rfl hl (by decide) rfl (fun ls hl => ?_)
          obtain ⟨v_11, ev_11, hf⟩ := nm_e hf
          refine lv_iinc (v := v_11) (lv' := [(2, .int v_11), (1, .int q5.2), (0, .ref (A 0))]) hx hb dX5_tellsMost_47 hl (k := 2) rfl (by rw [ev_11]; rfl) (by decide) rfl (fun ls hl => ?_)
          refine lv_goto (tgt := 5) hx hb dX5_tellsMost_50 (by decide) ?_
          exact ih5 (q5.2, v_11) hf H locs ls hP hD hS (lv_sub hl [2, 1, 0] rfl)

def f_X5_fewest (M : St) (p1 : Int32) (p2 : Int32) : Option (Int32 × St) := (bd (f_X5_isShip M p1) fun a_1 => (if a_1 = 0 then (bd (f_X5_no M (-1 : Int32)) fun a_15 => (some (a_15.1, a_15.2))) else (bd (f_X5_isIn p2 (0 : Int32) (1 : Int32)) fun a_3 => (if a_3 = 0 then (bd (f_X5_no M (-2 : Int32)) fun a_14 => (some (a_14.1, a_14.2))) else (gi p1 5 (if (M 3 (p1).toNatClampNeg) ≤ 0 then (bd (f_X5_fewestOf M p1) fun a_7 => (if p2 = 0 then (if p2 = 0 then (some (a_7.1, a_7.2)) else (some ((-9 : Int32), a_7.2))) else (if 0 < a_7.1 then (bd (f_X5_tellsMost a_7.2) fun a_11 => (some (a_11, a_7.2))) else (if p2 = 0 then (some (a_7.1, a_7.2)) else (some ((-9 : Int32), a_7.2)))))) else (bd (f_X5_no M (-3 : Int32)) fun a_13 => (some (a_13.1, a_13.2)))))))))
def rm_X5_fewest : Room := { frames := 4, cells := 0, slots := 0, locals := 92 }
theorem hd_X5_fewest : yX5_fewest.cls = RX5 ∧ yX5_fewest.cls ≠ "java/lang/invoke/MethodHandle" ∧ yX5_fewest.cls ≠ "java/lang/invoke/VarHandle" ∧ (parseMethodDescriptor yX5_fewest.desc).map (fun d => d.parameters.length) = some 2 := by decide +kernel
set_option maxRecDepth 100000 in
set_option maxHeartbeats 4000000 in
theorem c_X5_fewest (l : Launch) (D : va_G) (cI : ClassId) (A : Nat → Nat) (M : St) (p1 : Int32) (p2 : Int32) (r : Int32 × St) (hf : f_X5_fewest M p1 p2 = some r) : Ct l yX5_fewest wsX5_fewest rm_X5_fewest D cI (cM cI A M) (cM cI A r.2) [.ref (A 0), .int p1, .int p2] (some (.int r.1)) := by
  unfold f_X5_fewest at hf
  refine Ct.ofI (cc := cX5_fewest) (maxL := 5) (by decide +kernel) rfl (Nat.le_of_ble_eq_true rfl) ?_
  intro p e s m args below meth c AA Q H locs ls hx hb hml hown hts hA hK hP hD hS hl hend0
  have hend : ∀ (r1 : Int32 × St) (H : Heap) (locs : List Loc) (pc : Nat) (ls : Array Slot), some r1 = some r → va_P D vwCl (cM cI A r1.2) H → va_S AA s.heap H locs → decode cX5_fewest pc = .ok (.ireturn, 1) → W p l e rm_X5_fewest s m args below meth c H locs 0 0 Q (F0 m pc ls [.int r1.1]) := by
    intro r1 H locs pc ls e1 hP hS hd; cases e1; exact hend0 H locs pc ls hP hS hd
  clear hend0
  have hw5 : ∀ w ∈ wsX50, w ∈ wsX5_fewest := by decide +kernel
  have k19 := hts (.fieldLink RX5 19 "AnchorsForConfessionModel" "out" "[I") (by decide +kernel)
  replace hl : lv_has ls 5 [(0, .ref (A 0)), (1, .int p1), (2, .int p2)] := hl
  refine lv_aload_n hx hb dX5_fewest_0 rfl (lv_at hl 0 rfl) ?_
  refine lv_iload_n hx hb dX5_fewest_1 rfl (lv_at hl 1 rfl) ?_
  obtain ⟨a_1, ha_1, hf⟩ := bd_e hf
  refine Ct.callV (As := [.int p1]) (rest := []) (st1 := [.int a_1]) (c_X5_isShip l D cI A M p1 a_1 ha_1) hx hb hml hown hts (cwV 1 hts gX5_fewest_X5_isShip rfl rfl rfl hd_X5_isShip ⟨Nat.le_of_ble_eq_true rfl, Nat.le_of_ble_eq_true rfl⟩) (va_recv hK hP (ci := 5) (q0 := 0) rfl cM_at0) (Ln.id rfl) hA hK hP hD hS rfl hl.1 rfl rfl (Nat.le_of_ble_eq_true rfl) dX5_fewest_2 (fun H locs hP hD hS => ?_)
  refine lv_if_ne (tgt := 12) hx hb dX5_fewest_5 (by decide) (fun c_2 => ?_) (fun c_2 => ?_)
  · replace hf := if_f c_2 hf
    refine lv_iload_n hx hb dX5_fewest_12 rfl (lv_at hl 2 rfl) ?_
    refine lv_iconst (v := 0) hx hb dX5_fewest_13 (by decide) ?_
    refine lv_iconst (v := 1) hx hb dX5_fewest_14 (by decide) ?_
    obtain ⟨a_3, ha_3, hf⟩ := bd_e hf
    refine Ct.callS (As := [.int p2, .int (0 : Int32), .int (1 : Int32)]) (rest := []) (st1 := [.int a_3]) (c_X5_isIn l D cI  p2 (0 : Int32) (1 : Int32) a_3 ha_3) hx hb hml hown hts (va_cwS 3 hts gX5_fewest_X5_isIn rfl rfl rfl hd_X5_isIn ⟨Nat.le_of_ble_eq_true rfl, Nat.le_of_ble_eq_true rfl⟩) Ln.nil hA hK hP hD hS rfl hl.1 rfl rfl (Nat.le_of_ble_eq_true rfl) dX5_fewest_15 (fun H locs hP hD hS => ?_)
    refine lv_if_ne (tgt := 26) hx hb dX5_fewest_18 (by decide) (fun c_4 => ?_) (fun c_4 => ?_)
    · replace hf := if_f c_4 hf
      refine lv_aload_n hx hb dX5_fewest_26 rfl (lv_at hl 0 rfl) ?_
      refine va_get (D := D) (ci := 5) (v := .ref (A 4)) (C := RX5) (T := TX5) (N := 27) hx hb hts hw5 hown hK hP 0 cM_at0 rfl 3 (by decide) k19 (fun _ h9 => h9) rfl dX5_fewest_27 ?_
      refine lv_iload_n hx hb dX5_fewest_30 rfl (lv_at hl 1 rfl) ?_
      obtain ⟨c_5, hf⟩ := gi_e hf
      refine va_iald hx hb hK hP 4 0 cM_at4 rfl c_5 dX5_fewest_31 ?_
      refine lv_if_le (tgt := 40) hx hb dX5_fewest_32 (by decide) (fun c_6 => ?_) (fun c_6 => ?_)
      · replace hf := if_t c_6 hf
        refine lv_iconst (v := 0) hx hb dX5_fewest_40 (by decide) ?_
        refine lv_istore_n (lv' := [(3, .int (0 : Int32)), (0, .ref (A 0)), (1, .int p1), (2, .int p2)]) hx hb dX5_fewest_41 rfl hl (by decide) rfl (fun ls hl => ?_)
        refine lv_iload_n hx hb dX5_fewest_42 rfl (lv_at hl 0 rfl) ?_
        refine lv_if_eq (tgt := 52) hx hb dX5_fewest_43 (by decide) (fun _ => ?_) (fun c0 => absurd c0 (by decide))
        refine lv_aload_n hx hb dX5_fewest_52 rfl (lv_at hl 1 rfl) ?_
        refine lv_iload_n hx hb dX5_fewest_53 rfl (lv_at hl 2 rfl) ?_
        obtain ⟨a_7, ha_7, hf⟩ := bd_e hf
        refine Ct.callV (As := [.int p1]) (rest := []) (st1 := [.int a_7.1]) (c_X5_fewestOf l D cI A M p1 a_7 ha_7) hx hb hml hown hts (cwV 1 hts gX5_fewest_X5_fewestOf rfl rfl rfl hd_X5_fewestOf ⟨Nat.le_of_ble_eq_true rfl, Nat.le_of_ble_eq_true rfl⟩) (va_recv hK hP (ci := 5) (q0 := 0) rfl cM_at0) (Ln.id rfl) hA hK hP hD hS rfl hl.1 rfl rfl (Nat.le_of_ble_eq_true rfl) dX5_fewest_54 (fun H locs hP hD hS => ?_)
        replace hP : va_P D vwCl (cM cI A a_7.2) H := hP
        replace hD : va_D AA (cM cI A a_7.2) := hD
        refine lv_istore (lv' := [(4, .int a_7.1), (3, .int (0 : Int32)), (0, .ref (A 0)), (1, .int p1), (2, .int p2)]) hx hb dX5_fewest_57 hl (by decide) rfl (fun ls hl => ?_)
        refine lv_iload_n hx hb dX5_fewest_59 rfl (lv_at hl 4 rfl) ?_
        refine lv_if_eq (tgt := 68) hx hb dX5_fewest_60 (by decide) (fun c_8 => ?_) (fun c_8 => ?_)
        · replace hf := if_t c_8 hf
          refine lv_iload_n hx hb dX5_fewest_68 rfl (lv_at hl 4 rfl) ?_
          refine lv_if_ne (tgt := 77) hx hb dX5_fewest_69 (by decide) (fun c_9 => ?_) (fun c_9 => ?_)
          · replace hf := if_f c_9 hf
            refine lv_bipush (v := -9) hx hb dX5_fewest_77 (by decide +kernel) ?_
            refine lv_goto (tgt := 86) hx hb dX5_fewest_79 (by decide) ?_
            exact hend ((-9 : Int32), a_7.2) H locs _ _ hf hP hS dX5_fewest_86
          · replace hf := if_t c_9 hf
            refine lv_iload hx hb dX5_fewest_72 (lv_at hl 0 rfl) ?_
            refine lv_goto (tgt := 86) hx hb dX5_fewest_74 (by decide) ?_
            exact hend (a_7.1, a_7.2) H locs _ _ hf hP hS dX5_fewest_86
        · replace hf := if_f c_8 hf
          refine lv_iload hx hb dX5_fewest_63 (lv_at hl 0 rfl) ?_
          refine lv_if_gt (tgt := 82) hx hb dX5_fewest_65 (by decide) (fun c_10 => ?_) (fun c_10 => ?_)
          · replace hf := if_t c_10 hf
            refine lv_aload_n hx hb dX5_fewest_82 rfl (lv_at hl 2 rfl) ?_
            obtain ⟨a_11, ha_11, hf⟩ := bd_e hf
            refine Ct.callV (As := []) (rest := []) (st1 := [.int a_11]) (c_X5_tellsMost l D cI A a_7.2 a_11 ha_11) hx hb hml hown hts (cwV 0 hts gX5_fewest_X5_tellsMost rfl rfl rfl hd_X5_tellsMost ⟨Nat.le_of_ble_eq_true rfl, Nat.le_of_ble_eq_true rfl⟩) (va_recv hK hP (ci := 5) (q0 := 0) rfl cM_at0) (Ln.id rfl) hA hK hP hD hS rfl hl.1 rfl rfl (Nat.le_of_ble_eq_true rfl) dX5_fewest_83 (fun H locs hP hD hS => ?_)
            exact hend (a_11, a_7.2) H locs _ _ hf hP hS dX5_fewest_86
          · replace hf := if_f c_10 hf
            refine lv_iload_n hx hb dX5_fewest_68 rfl (lv_at hl 4 rfl) ?_
            refine lv_if_ne (tgt := 77) hx hb dX5_fewest_69 (by decide) (fun c_12 => ?_) (fun c_12 => ?_)
            · replace hf := if_f c_12 hf
              refine lv_bipush (v := -9) hx hb dX5_fewest_77 (by decide +kernel) ?_
              refine lv_goto (tgt := 86) hx hb dX5_fewest_79 (by decide) ?_
              exact hend ((-9 : Int32), a_7.2) H locs _ _ hf hP hS dX5_fewest_86
            · replace hf := if_t c_12 hf
              refine lv_iload hx hb dX5_fewest_72 (lv_at hl 0 rfl) ?_
              refine lv_goto (tgt := 86) hx hb dX5_fewest_74 (by decide) ?_
              exact hend (a_7.1, a_7.2) H locs _ _ hf hP hS dX5_fewest_86
      · replace hf := if_f c_6 hf
        refine lv_bipush (v := -3) hx hb dX5_fewest_35 (by decide +kernel) ?_
        refine lv_goto (tgt := 41) hx hb dX5_fewest_37 (by decide) ?_
        refine lv_istore_n (lv' := [(3, .int (-3 : Int32)), (0, .ref (A 0)), (1, .int p1), (2, .int p2)]) hx hb dX5_fewest_41 rfl hl (by decide) rfl (fun ls hl => ?_)
        refine lv_iload_n hx hb dX5_fewest_42 rfl (lv_at hl 0 rfl) ?_
        refine lv_if_eq (tgt := 52) hx hb dX5_fewest_43 (by decide) (fun c0 => absurd c0 (by decide)) (fun _ => ?_)
        refine lv_aload_n hx hb dX5_fewest_46 rfl (lv_at hl 1 rfl) ?_
        refine lv_iload_n hx hb dX5_fewest_47 rfl (lv_at hl 0 rfl) ?_
        obtain ⟨a_13, ha_13, hf⟩ := bd_e hf
        refine Ct.callV (As := [.int (-3 : Int32)]) (rest := []) (st1 := [.int a_13.1]) (c_X5_no l D cI A M (-3 : Int32) a_13 ha_13) hx hb hml hown hts (cwV 1 hts gX5_fewest_X5_no rfl rfl rfl hd_X5_no ⟨Nat.le_of_ble_eq_true rfl, Nat.le_of_ble_eq_true rfl⟩) (va_recv hK hP (ci := 5) (q0 := 0) rfl cM_at0) (Ln.id rfl) hA hK hP hD hS rfl hl.1 rfl rfl (Nat.le_of_ble_eq_true rfl) dX5_fewest_48 (fun H locs hP hD hS => ?_)
        replace hP : va_P D vwCl (cM cI A a_13.2) H := hP
        replace hD : va_D AA (cM cI A a_13.2) := hD
        exact hend (a_13.1, a_13.2) H locs _ _ hf hP hS dX5_fewest_51
    · replace hf := if_t c_4 hf
      refine lv_bipush (v := -2) hx hb dX5_fewest_21 (by decide +kernel) ?_
      refine lv_goto (tgt := 41) hx hb dX5_fewest_23 (by decide) ?_
      refine lv_istore_n (lv' := [(3, .int (-2 : Int32)), (0, .ref (A 0)), (1, .int p1), (2, .int p2)]) hx hb dX5_fewest_41 rfl hl (by decide) rfl (fun ls hl => ?_)
      refine lv_iload_n hx hb dX5_fewest_42 rfl (lv_at hl 0 rfl) ?_
      refine lv_if_eq (tgt := 52) hx hb dX5_fewest_43 (by decide) (fun c0 => absurd c0 (by decide)) (fun _ => ?_)
      refine lv_aload_n hx hb dX5_fewest_46 rfl (lv_at hl 1 rfl) ?_
      refine lv_iload_n hx hb dX5_fewest_47 rfl (lv_at hl 0 rfl) ?_
      obtain ⟨a_14, ha_14, hf⟩ := bd_e hf
      refine Ct.callV (As := [.int (-2 : Int32)]) (rest := []) (st1 := [.int a_14.1]) (c_X5_no l D cI A M (-2 : Int32) a_14 ha_14) hx hb hml hown hts (cwV 1 hts gX5_fewest_X5_no rfl rfl rfl hd_X5_no ⟨Nat.le_of_ble_eq_true rfl, Nat.le_of_ble_eq_true rfl⟩) (va_recv hK hP (ci := 5) (q0 := 0) rfl cM_at0) (Ln.id rfl) hA hK hP hD hS rfl hl.1 rfl rfl (Nat.le_of_ble_eq_true rfl) dX5_fewest_48 (fun H locs hP hD hS => ?_)
      replace hP : va_P D vwCl (cM cI A a_14.2) H := hP
      replace hD : va_D AA (cM cI A a_14.2) := hD
      exact hend (a_14.1, a_14.2) H locs _ _ hf hP hS dX5_fewest_51
  · replace hf := if_t c_2 hf
    refine lv_iconst (v := -1) hx hb dX5_fewest_8 (by decide) ?_
    refine lv_goto (tgt := 41) hx hb dX5_fewest_9 (by decide) ?_
    refine lv_istore_n (lv' := [(3, .int (-1 : Int32)), (0, .ref (A 0)), (1, .int p1), (2, .int p2)]) hx hb dX5_fewest_41 rfl hl (by decide) rfl (fun ls hl => ?_)
    refine lv_iload_n hx hb dX5_fewest_42 rfl (lv_at hl 0 rfl) ?_
    refine lv_if_eq (tgt := 52) hx hb dX5_fewest_43 (by decide) (fun c0 => absurd c0 (by decide)) (fun _ => ?_)
    refine lv_aload_n hx hb dX5_fewest_46 rfl (lv_at hl 1 rfl) ?_
    refine lv_iload_n hx hb dX5_fewest_47 rfl (lv_at hl 0 rfl) ?_
    obtain ⟨a_15, ha_15, hf⟩ := bd_e hf
    refine Ct.callV (As := [.int (-1 : Int32)]) (rest := []) (st1 := [.int a_15.1]) (c_X5_no l D cI A M (-1 : Int32) a_15 ha_15) hx hb hml hown hts (cwV 1 hts gX5_fewest_X5_no rfl rfl rfl hd_X5_no ⟨Nat.le_of_ble_eq_true rfl, Nat.le_of_ble_eq_true rfl⟩) (va_recv hK hP (ci := 5) (q0 := 0) rfl cM_at0) (Ln.id rfl) hA hK hP hD hS rfl hl.1 rfl rfl (Nat.le_of_ble_eq_true rfl) dX5_fewest_48 (fun H locs hP hD hS => ?_)
    replace hP : va_P D vwCl (cM cI A a_15.2) H := hP
    replace hD : va_D AA (cM cI A a_15.2) := hD
    exact hend (a_15.1, a_15.2) H locs _ _ hf hP hS dX5_fewest_51

def f_X5_when (M : St) (p1 : Int32) (p2 : Int32) : Option (Int32 × St) := (bd (f_X5_isShip M p1) fun a_1 => (if a_1 = 0 then (bd (f_X5_no M (-1 : Int32)) fun a_22 => (some (a_22.1, a_22.2))) else (bd (f_X5_bound p2 (0 : Int32) (20 : Int32)) fun a_3 => (if a_3 = 0 then (bd (f_X5_thinks M) fun a_5 => (lp (fun (nx41 : (Int32 × Int32 × St) → Option (Int32 × St)) (q41 : Int32 × Int32 × St) => (if (60 : Int32) < q41.2.1 then (bd (f_X5_forgets q41.2.2) fun a_7 => (some (q41.1, a_7))) else (if 0 ≤ q41.1 then (bd (f_X5_forgets q41.2.2) fun a_9 => (some (q41.1, a_9))) else (gi p1 5 (if (q41.2.2 3 (p1).toNatClampNeg) = 0 then (bd (f_X5_fewestOf q41.2.2 p1) fun a_14 => (bd (f_X5_isIn a_14.1 (0 : Int32) p2) fun a_15 => (if a_15 = 0 then (bd (f_X5_goesTide a_14.2) fun a_17 => (nm (q41.2.1 + (1 : Int32)) fun v_18 => (nx41 ((-9 : Int32), v_18, a_17)))) else (bd (f_X5_goesTide a_14.2) fun a_19 => (nm (q41.2.1 + (1 : Int32)) fun v_20 => (nx41 (q41.2.1, v_20, a_19))))))) else (bd (f_X5_goesTide q41.2.2) fun a_12 => (nm (q41.2.1 + (1 : Int32)) fun v_13 => (nx41 ((-9 : Int32), v_13, a_12))))))))) 1000 ((-9 : Int32), (0 : Int32), a_5))) else (bd (f_X5_no M a_3) fun a_21 => (some (a_21.1, a_21.2)))))))
def rm_X5_when : Room := { frames := 4, cells := 0, slots := 0, locals := 92 }
theorem hd_X5_when : yX5_when.cls = RX5 ∧ yX5_when.cls ≠ "java/lang/invoke/MethodHandle" ∧ yX5_when.cls ≠ "java/lang/invoke/VarHandle" ∧ (parseMethodDescriptor yX5_when.desc).map (fun d => d.parameters.length) = some 2 := by decide +kernel
set_option maxRecDepth 100000 in
set_option maxHeartbeats 4000000 in
theorem c_X5_when (l : Launch) (D : va_G) (cI : ClassId) (A : Nat → Nat) (M : St) (p1 : Int32) (p2 : Int32) (r : Int32 × St) (hf : f_X5_when M p1 p2 = some r) : Ct l yX5_when wsX5_when rm_X5_when D cI (cM cI A M) (cM cI A r.2) [.ref (A 0), .int p1, .int p2] (some (.int r.1)) := by
  unfold f_X5_when at hf
  refine Ct.ofI (cc := cX5_when) (maxL := 6) (by decide +kernel) rfl (Nat.le_of_ble_eq_true rfl) ?_
  intro p e s m args below meth c AA Q H locs ls hx hb hml hown hts hA hK hP hD hS hl hend0
  have hend : ∀ (r1 : Int32 × St) (H : Heap) (locs : List Loc) (pc : Nat) (ls : Array Slot), some r1 = some r → va_P D vwCl (cM cI A r1.2) H → va_S AA s.heap H locs → decode cX5_when pc = .ok (.ireturn, 1) → W p l e rm_X5_when s m args below meth c H locs 0 0 Q (F0 m pc ls [.int r1.1]) := by
    intro r1 H locs pc ls e1 hP hS hd; cases e1; exact hend0 H locs pc ls hP hS hd
  clear hend0
  have hw5 : ∀ w ∈ wsX50, w ∈ wsX5_when := by decide +kernel
  have k19 := hts (.fieldLink RX5 19 "AnchorsForConfessionModel" "out" "[I") (by decide +kernel)
  replace hl : lv_has ls 6 [(0, .ref (A 0)), (1, .int p1), (2, .int p2)] := hl
  refine lv_aload_n hx hb dX5_when_0 rfl (lv_at hl 0 rfl) ?_
  refine lv_iload_n hx hb dX5_when_1 rfl (lv_at hl 1 rfl) ?_
  obtain ⟨a_1, ha_1, hf⟩ := bd_e hf
  refine Ct.callV (As := [.int p1]) (rest := []) (st1 := [.int a_1]) (c_X5_isShip l D cI A M p1 a_1 ha_1) hx hb hml hown hts (cwV 1 hts gX5_when_X5_isShip rfl rfl rfl hd_X5_isShip ⟨Nat.le_of_ble_eq_true rfl, Nat.le_of_ble_eq_true rfl⟩) (va_recv hK hP (ci := 5) (q0 := 0) rfl cM_at0) (Ln.id rfl) hA hK hP hD hS rfl hl.1 rfl rfl (Nat.le_of_ble_eq_true rfl) dX5_when_2 (fun H locs hP hD hS => ?_)
  refine lv_if_ne (tgt := 12) hx hb dX5_when_5 (by decide) (fun c_2 => ?_) (fun c_2 => ?_)
  · replace hf := if_f c_2 hf
    refine lv_iload_n hx hb dX5_when_12 rfl (lv_at hl 2 rfl) ?_
    refine lv_iconst (v := 0) hx hb dX5_when_13 (by decide) ?_
    refine lv_bipush (v := 20) hx hb dX5_when_14 (by decide +kernel) ?_
    obtain ⟨a_3, ha_3, hf⟩ := bd_e hf
    refine Ct.callS (As := [.int p2, .int (0 : Int32), .int (20 : Int32)]) (rest := []) (st1 := [.int a_3]) (c_X5_bound l D cI  p2 (0 : Int32) (20 : Int32) a_3 ha_3) hx hb hml hown hts (va_cwS 3 hts gX5_when_X5_bound rfl rfl rfl hd_X5_bound ⟨Nat.le_of_ble_eq_true rfl, Nat.le_of_ble_eq_true rfl⟩) Ln.nil hA hK hP hD hS rfl hl.1 rfl rfl (Nat.le_of_ble_eq_true rfl) dX5_when_16 (fun H locs hP hD hS => ?_)
    refine lv_istore_n (lv' := [(3, .int a_3), (0, .ref (A 0)), (1, .int p1), (2, .int p2)]) hx hb dX5_when_19 rfl hl (by decide) rfl (fun ls hl => ?_)
    refine lv_iload_n hx hb dX5_when_20 rfl (lv_at hl 0 rfl) ?_
    refine lv_if_eq (tgt := 30) hx hb dX5_when_21 (by decide) (fun c_4 => ?_) (fun c_4 => ?_)
    · replace hf := if_t c_4 hf
      refine lv_aload_n hx hb dX5_when_30 rfl (lv_at hl 1 rfl) ?_
      obtain ⟨a_5, ha_5, hf⟩ := bd_e hf
      refine Ct.callV (As := []) (rest := []) (st1 := []) (c_X5_thinks l D cI A M a_5 ha_5) hx hb hml hown hts (cwV 0 hts gX5_when_X5_thinks rfl rfl rfl hd_X5_thinks ⟨Nat.le_of_ble_eq_true rfl, Nat.le_of_ble_eq_true rfl⟩) (va_recv hK hP (ci := 5) (q0 := 0) rfl cM_at0) (Ln.id rfl) hA hK hP hD hS rfl hl.1 rfl rfl (Nat.le_of_ble_eq_true rfl) dX5_when_31 (fun H locs hP hD hS => ?_)
      replace hP : va_P D vwCl (cM cI A a_5) H := hP
      replace hD : va_D AA (cM cI A a_5) := hD
      refine lv_bipush (v := -9) hx hb dX5_when_34 (by decide +kernel) ?_
      refine lv_istore (lv' := [(4, .int (-9 : Int32)), (3, .int a_3), (0, .ref (A 0)), (1, .int p1), (2, .int p2)]) hx hb dX5_when_36 hl (by decide) rfl (fun ls hl => ?_)
      refine lv_iconst (v := 0) hx hb dX5_when_38 (by decide) ?_
      refine lv_istore (lv' := [(5, .int (0 : Int32)), (4, .int (-9 : Int32)), (3, .int a_3), (0, .ref (A 0)), (1, .int p1), (2, .int p2)]) hx hb dX5_when_39 hl (by decide) rfl (fun ls hl => ?_)
      refine lp_ind (P := fun (q41 : Int32 × Int32 × St) => ∀ (H : Heap) (locs : List Loc) (ls : Array Slot), va_P D vwCl (cM cI A q41.2.2) H → va_D AA (cM cI A q41.2.2) → va_S AA s.heap H locs → lv_has ls 6 [(0, .ref (A 0)), (1, .int p1), (2, .int p2), (4, .int q41.1), (5, .int q41.2.1)] → W p l e rm_X5_when s m args below meth c H locs 0 0 Q (F0 m 41 ls [])) hf ?_ H locs ls hP hD hS (lv_sub hl [3, 4, 5, 1, 0] rfl)
      clear hf hP hD hS hl
      intro nx41 ih41 q41 hf H locs ls hP hD hS hl
      refine lv_iload hx hb dX5_when_41 (lv_at hl 4 rfl) ?_
      refine lv_bipush (v := 60) hx hb dX5_when_43 (by decide +kernel) ?_
      refine lv_icmp_gt (tgt := 94) hx hb dX5_when_45 (by decide) (fun c_6 => ?_) (fun c_6 => ?_)
      · replace hf := if_t c_6 hf
        refine lv_aload_n hx hb dX5_when_94 rfl (lv_at hl 0 rfl) ?_
        obtain ⟨a_7, ha_7, hf⟩ := bd_e hf
        refine Ct.callV (As := []) (rest := []) (st1 := []) (c_X5_forgets l D cI A q41.2.2 a_7 ha_7) hx hb hml hown hts (cwV 0 hts gX5_when_X5_forgets rfl rfl rfl hd_X5_forgets ⟨Nat.le_of_ble_eq_true rfl, Nat.le_of_ble_eq_true rfl⟩) (va_recv hK hP (ci := 5) (q0 := 0) rfl cM_at0) (Ln.id rfl) hA hK hP hD hS rfl hl.1 rfl rfl (Nat.le_of_ble_eq_true rfl) dX5_when_95 (fun H locs hP hD hS => ?_)
        replace hP : va_P D vwCl (cM cI A a_7) H := hP
        replace hD : va_D AA (cM cI A a_7) := hD
        refine lv_iload hx hb dX5_when_98 (lv_at hl 3 rfl) ?_
        exact hend (q41.1, a_7) H locs _ _ hf hP hS dX5_when_100
      · replace hf := if_f c_6 hf
        refine lv_iload hx hb dX5_when_48 (lv_at hl 3 rfl) ?_
        refine lv_if_ge (tgt := 94) hx hb dX5_when_50 (by decide) (fun c_8 => ?_) (fun c_8 => ?_)
        · replace hf := if_t c_8 hf
          refine lv_aload_n hx hb dX5_when_94 rfl (lv_at hl 0 rfl) ?_
          obtain ⟨a_9, ha_9, hf⟩ := bd_e hf
          refine Ct.callV (As := []) (rest := []) (st1 := []) (c_X5_forgets l D cI A q41.2.2 a_9 ha_9) hx hb hml hown hts (cwV 0 hts gX5_when_X5_forgets rfl rfl rfl hd_X5_forgets ⟨Nat.le_of_ble_eq_true rfl, Nat.le_of_ble_eq_true rfl⟩) (va_recv hK hP (ci := 5) (q0 := 0) rfl cM_at0) (Ln.id rfl) hA hK hP hD hS rfl hl.1 rfl rfl (Nat.le_of_ble_eq_true rfl) dX5_when_95 (fun H locs hP hD hS => ?_)
          replace hP : va_P D vwCl (cM cI A a_9) H := hP
          replace hD : va_D AA (cM cI A a_9) := hD
          refine lv_iload hx hb dX5_when_98 (lv_at hl 3 rfl) ?_
          exact hend (q41.1, a_9) H locs _ _ hf hP hS dX5_when_100
        · replace hf := if_f c_8 hf
          refine lv_aload_n hx hb dX5_when_53 rfl (lv_at hl 0 rfl) ?_
          refine va_get (D := D) (ci := 5) (v := .ref (A 4)) (C := RX5) (T := TX5) (N := 27) hx hb hts hw5 hown hK hP 0 cM_at0 rfl 3 (by decide) k19 (fun _ h9 => h9) rfl dX5_when_54 ?_
          refine lv_iload_n hx hb dX5_when_57 rfl (lv_at hl 1 rfl) ?_
          obtain ⟨c_10, hf⟩ := gi_e hf
          refine va_iald hx hb hK hP 4 0 cM_at4 rfl c_10 dX5_when_58 ?_
          refine lv_if_ne (tgt := 80) hx hb dX5_when_59 (by decide) (fun c_11 => ?_) (fun c_11 => ?_)
          · replace hf := if_f c_11 hf
            refine lv_bipush (v := -9) hx hb dX5_when_80 (by decide +kernel) ?_
            refine lv_istore (lv' := [(4, .int (-9 : Int32)), (0, .ref (A 0)), (1, .int p1), (2, .int p2), (5, .int q41.2.1)]) hx hb dX5_when_82 hl (by decide) rfl (fun ls hl => ?_)
            refine lv_aload_n hx hb dX5_when_84 rfl (lv_at hl 1 rfl) ?_
            obtain ⟨a_12, ha_12, hf⟩ := bd_e hf
            refine Ct.callV (As := []) (rest := []) (st1 := []) (c_X5_goesTide l D cI A q41.2.2 a_12 ha_12) hx hb hml hown hts (cwV 0 hts gX5_when_X5_goesTide rfl rfl rfl hd_X5_goesTide ⟨Nat.le_of_ble_eq_true rfl, Nat.le_of_ble_eq_true rfl⟩) (va_recv hK hP (ci := 5) (q0 := 0) rfl cM_at0) (Ln.id rfl) hA hK hP hD hS rfl hl.1 rfl rfl (Nat.le_of_ble_eq_true rfl) dX5_when_85 (fun H locs hP hD hS => ?_)
            replace hP : va_P D vwCl (cM cI A a_12) H := hP
            replace hD : va_D AA (cM cI A a_12) := hD
            obtain ⟨v_13, ev_13, hf⟩ := nm_e hf
            refine lv_iinc (v := v_13) (lv' := [(5, .int v_13), (4, .int (-9 : Int32)), (0, .ref (A 0)), (1, .int p1), (2, .int p2)]) hx hb dX5_when_88 hl (k := 4) rfl (by rw [ev_13]; rfl) (by decide) rfl (fun ls hl => ?_)
            refine lv_goto (tgt := 41) hx hb dX5_when_91 (by decide) ?_
            exact ih41 ((-9 : Int32), v_13, a_12) hf H locs ls hP hD hS (lv_sub hl [2, 3, 4, 1, 0] rfl)
          · replace hf := if_t c_11 hf
            refine lv_aload_n hx hb dX5_when_62 rfl (lv_at hl 0 rfl) ?_
            refine lv_iload_n hx hb dX5_when_63 rfl (lv_at hl 1 rfl) ?_
            obtain ⟨a_14, ha_14, hf⟩ := bd_e hf
            refine Ct.callV (As := [.int p1]) (rest := []) (st1 := [.int a_14.1]) (c_X5_fewestOf l D cI A q41.2.2 p1 a_14 ha_14) hx hb hml hown hts (cwV 1 hts gX5_when_X5_fewestOf rfl rfl rfl hd_X5_fewestOf ⟨Nat.le_of_ble_eq_true rfl, Nat.le_of_ble_eq_true rfl⟩) (va_recv hK hP (ci := 5) (q0 := 0) rfl cM_at0) (Ln.id rfl) hA hK hP hD hS rfl hl.1 rfl rfl (Nat.le_of_ble_eq_true rfl) dX5_when_64 (fun H locs hP hD hS => ?_)
            replace hP : va_P D vwCl (cM cI A a_14.2) H := hP
            replace hD : va_D AA (cM cI A a_14.2) := hD
            refine lv_iconst (v := 0) hx hb dX5_when_67 (by decide) ?_
            refine lv_iload_n hx hb dX5_when_68 rfl (lv_at hl 2 rfl) ?_
            obtain ⟨a_15, ha_15, hf⟩ := bd_e hf
            refine Ct.callS (As := [.int a_14.1, .int (0 : Int32), .int p2]) (rest := []) (st1 := [.int a_15]) (c_X5_isIn l D cI  a_14.1 (0 : Int32) p2 a_15 ha_15) hx hb hml hown hts (va_cwS 3 hts gX5_when_X5_isIn rfl rfl rfl hd_X5_isIn ⟨Nat.le_of_ble_eq_true rfl, Nat.le_of_ble_eq_true rfl⟩) Ln.nil hA hK hP hD hS rfl hl.1 rfl rfl (Nat.le_of_ble_eq_true rfl) dX5_when_69 (fun H locs hP hD hS => ?_)
            refine lv_if_eq (tgt := 80) hx hb dX5_when_72 (by decide) (fun c_16 => ?_) (fun c_16 => ?_)
            · replace hf := if_t c_16 hf
              refine lv_bipush (v := -9) hx hb dX5_when_80 (by decide +kernel) ?_
              refine lv_istore (lv' := [(4, .int (-9 : Int32)), (0, .ref (A 0)), (1, .int p1), (2, .int p2), (5, .int q41.2.1)]) hx hb dX5_when_82 hl (by decide) rfl (fun ls hl => ?_)
              refine lv_aload_n hx hb dX5_when_84 rfl (lv_at hl 1 rfl) ?_
              obtain ⟨a_17, ha_17, hf⟩ := bd_e hf
              refine Ct.callV (As := []) (rest := []) (st1 := []) (c_X5_goesTide l D cI A a_14.2 a_17 ha_17) hx hb hml hown hts (cwV 0 hts gX5_when_X5_goesTide rfl rfl rfl hd_X5_goesTide ⟨Nat.le_of_ble_eq_true rfl, Nat.le_of_ble_eq_true rfl⟩) (va_recv hK hP (ci := 5) (q0 := 0) rfl cM_at0) (Ln.id rfl) hA hK hP hD hS rfl hl.1 rfl rfl (Nat.le_of_ble_eq_true rfl) dX5_when_85 (fun H locs hP hD hS => ?_)
              replace hP : va_P D vwCl (cM cI A a_17) H := hP
              replace hD : va_D AA (cM cI A a_17) := hD
              obtain ⟨v_18, ev_18, hf⟩ := nm_e hf
              refine lv_iinc (v := v_18) (lv' := [(5, .int v_18), (4, .int (-9 : Int32)), (0, .ref (A 0)), (1, .int p1), (2, .int p2)]) hx hb dX5_when_88 hl (k := 4) rfl (by rw [ev_18]; rfl) (by decide) rfl (fun ls hl => ?_)
              refine lv_goto (tgt := 41) hx hb dX5_when_91 (by decide) ?_
              exact ih41 ((-9 : Int32), v_18, a_17) hf H locs ls hP hD hS (lv_sub hl [2, 3, 4, 1, 0] rfl)
            · replace hf := if_f c_16 hf
              refine lv_iload hx hb dX5_when_75 (lv_at hl 4 rfl) ?_
              refine lv_goto (tgt := 82) hx hb dX5_when_77 (by decide) ?_
              refine lv_istore (lv' := [(4, .int q41.2.1), (0, .ref (A 0)), (1, .int p1), (2, .int p2), (5, .int q41.2.1)]) hx hb dX5_when_82 hl (by decide) rfl (fun ls hl => ?_)
              refine lv_aload_n hx hb dX5_when_84 rfl (lv_at hl 1 rfl) ?_
              obtain ⟨a_19, ha_19, hf⟩ := bd_e hf
              refine Ct.callV (As := []) (rest := []) (st1 := []) (c_X5_goesTide l D cI A a_14.2 a_19 ha_19) hx hb hml hown hts (cwV 0 hts gX5_when_X5_goesTide rfl rfl rfl hd_X5_goesTide ⟨Nat.le_of_ble_eq_true rfl, Nat.le_of_ble_eq_true rfl⟩) (va_recv hK hP (ci := 5) (q0 := 0) rfl cM_at0) (Ln.id rfl) hA hK hP hD hS rfl hl.1 rfl rfl (Nat.le_of_ble_eq_true rfl) dX5_when_85 (fun H locs hP hD hS => ?_)
              replace hP : va_P D vwCl (cM cI A a_19) H := hP
              replace hD : va_D AA (cM cI A a_19) := hD
              obtain ⟨v_20, ev_20, hf⟩ := nm_e hf
              refine lv_iinc (v := v_20) (lv' := [(5, .int v_20), (4, .int q41.2.1), (0, .ref (A 0)), (1, .int p1), (2, .int p2)]) hx hb dX5_when_88 hl (k := 4) rfl (by rw [ev_20]; rfl) (by decide) rfl (fun ls hl => ?_)
              refine lv_goto (tgt := 41) hx hb dX5_when_91 (by decide) ?_
              exact ih41 (q41.2.1, v_20, a_19) hf H locs ls hP hD hS (lv_sub hl [2, 3, 4, 1, 0] rfl)
    · replace hf := if_f c_4 hf
      refine lv_aload_n hx hb dX5_when_24 rfl (lv_at hl 1 rfl) ?_
      refine lv_iload_n hx hb dX5_when_25 rfl (lv_at hl 0 rfl) ?_
      obtain ⟨a_21, ha_21, hf⟩ := bd_e hf
      refine Ct.callV (As := [.int a_3]) (rest := []) (st1 := [.int a_21.1]) (c_X5_no l D cI A M a_3 a_21 ha_21) hx hb hml hown hts (cwV 1 hts gX5_when_X5_no rfl rfl rfl hd_X5_no ⟨Nat.le_of_ble_eq_true rfl, Nat.le_of_ble_eq_true rfl⟩) (va_recv hK hP (ci := 5) (q0 := 0) rfl cM_at0) (Ln.id rfl) hA hK hP hD hS rfl hl.1 rfl rfl (Nat.le_of_ble_eq_true rfl) dX5_when_26 (fun H locs hP hD hS => ?_)
      replace hP : va_P D vwCl (cM cI A a_21.2) H := hP
      replace hD : va_D AA (cM cI A a_21.2) := hD
      exact hend (a_21.1, a_21.2) H locs _ _ hf hP hS dX5_when_29
  · replace hf := if_t c_2 hf
    refine lv_iconst (v := -1) hx hb dX5_when_8 (by decide) ?_
    refine lv_goto (tgt := 19) hx hb dX5_when_9 (by decide) ?_
    refine lv_istore_n (lv' := [(3, .int (-1 : Int32)), (0, .ref (A 0)), (1, .int p1), (2, .int p2)]) hx hb dX5_when_19 rfl hl (by decide) rfl (fun ls hl => ?_)
    refine lv_iload_n hx hb dX5_when_20 rfl (lv_at hl 0 rfl) ?_
    refine lv_if_eq (tgt := 30) hx hb dX5_when_21 (by decide) (fun c0 => absurd c0 (by decide)) (fun _ => ?_)
    refine lv_aload_n hx hb dX5_when_24 rfl (lv_at hl 1 rfl) ?_
    refine lv_iload_n hx hb dX5_when_25 rfl (lv_at hl 0 rfl) ?_
    obtain ⟨a_22, ha_22, hf⟩ := bd_e hf
    refine Ct.callV (As := [.int (-1 : Int32)]) (rest := []) (st1 := [.int a_22.1]) (c_X5_no l D cI A M (-1 : Int32) a_22 ha_22) hx hb hml hown hts (cwV 1 hts gX5_when_X5_no rfl rfl rfl hd_X5_no ⟨Nat.le_of_ble_eq_true rfl, Nat.le_of_ble_eq_true rfl⟩) (va_recv hK hP (ci := 5) (q0 := 0) rfl cM_at0) (Ln.id rfl) hA hK hP hD hS rfl hl.1 rfl rfl (Nat.le_of_ble_eq_true rfl) dX5_when_26 (fun H locs hP hD hS => ?_)
    replace hP : va_P D vwCl (cM cI A a_22.2) H := hP
    replace hD : va_D AA (cM cI A a_22.2) := hD
    exact hend (a_22.1, a_22.2) H locs _ _ hf hP hS dX5_when_29

def f_X5_cheapest (M : St) : Option (Int32 × St) := (lp (fun (nx8 : (Int32 × Int32 × Int32 × St) → Option (Int32 × St)) (q8 : Int32 × Int32 × Int32 × St) => (if (q8.2.2.2 16 0) ≤ q8.2.2.1 then (some (q8.1, q8.2.2.2)) else (gi q8.2.2.1 5 (if (q8.2.2.2 3 (q8.2.2.1).toNatClampNeg) ≤ 0 then (bd (f_X5_fewestOf q8.2.2.2 q8.2.2.1) fun a_4 => (if a_4.1 < 0 then (nm (q8.2.2.1 + (1 : Int32)) fun v_6 => (nx8 (q8.1, q8.2.1, v_6, a_4.2))) else (if q8.1 < 0 then (nm (q8.2.2.1 + (1 : Int32)) fun v_8 => (nx8 (q8.2.2.1, a_4.1, v_8, a_4.2))) else (if a_4.1 < q8.2.1 then (nm (q8.2.2.1 + (1 : Int32)) fun v_10 => (nx8 (q8.2.2.1, a_4.1, v_10, a_4.2))) else (nm (q8.2.2.1 + (1 : Int32)) fun v_11 => (nx8 (q8.1, q8.2.1, v_11, a_4.2))))))) else (nm (q8.2.2.1 + (1 : Int32)) fun v_12 => (nx8 (q8.1, q8.2.1, v_12, q8.2.2.2))))))) 1000 ((-9 : Int32), (-9 : Int32), (0 : Int32), M))
def rm_X5_cheapest : Room := { frames := 4, cells := 0, slots := 0, locals := 92 }
theorem hd_X5_cheapest : yX5_cheapest.cls = RX5 ∧ yX5_cheapest.cls ≠ "java/lang/invoke/MethodHandle" ∧ yX5_cheapest.cls ≠ "java/lang/invoke/VarHandle" ∧ (parseMethodDescriptor yX5_cheapest.desc).map (fun d => d.parameters.length) = some 0 := by decide +kernel
set_option maxRecDepth 100000 in
set_option maxHeartbeats 4000000 in
theorem c_X5_cheapest (l : Launch) (D : va_G) (cI : ClassId) (A : Nat → Nat) (M : St) (r : Int32 × St) (hf : f_X5_cheapest M = some r) : Ct l yX5_cheapest wsX5_cheapest rm_X5_cheapest D cI (cM cI A M) (cM cI A r.2) [.ref (A 0)] (some (.int r.1)) := by
  unfold f_X5_cheapest at hf
  refine Ct.ofI (cc := cX5_cheapest) (maxL := 5) (by decide +kernel) rfl (Nat.le_of_ble_eq_true rfl) ?_
  intro p e s m args below meth c AA Q H locs ls hx hb hml hown hts hA hK hP hD hS hl hend0
  have hend : ∀ (r1 : Int32 × St) (H : Heap) (locs : List Loc) (pc : Nat) (ls : Array Slot), some r1 = some r → va_P D vwCl (cM cI A r1.2) H → va_S AA s.heap H locs → decode cX5_cheapest pc = .ok (.ireturn, 1) → W p l e rm_X5_cheapest s m args below meth c H locs 0 0 Q (F0 m pc ls [.int r1.1]) := by
    intro r1 H locs pc ls e1 hP hS hd; cases e1; exact hend0 H locs pc ls hP hS hd
  clear hend0
  have hw5 : ∀ w ∈ wsX50, w ∈ wsX5_cheapest := by decide +kernel
  have k19 := hts (.fieldLink RX5 19 "AnchorsForConfessionModel" "out" "[I") (by decide +kernel)
  have k58 := hts (.fieldLink RX5 58 "AnchorsForConfessionModel" "ships" "I") (by decide +kernel)
  replace hl : lv_has ls 5 [(0, .ref (A 0))] := hl
  refine lv_bipush (v := -9) hx hb dX5_cheapest_0 (by decide +kernel) ?_
  refine lv_istore_n (lv' := [(1, .int (-9 : Int32)), (0, .ref (A 0))]) hx hb dX5_cheapest_2 rfl hl (by decide) rfl (fun ls hl => ?_)
  refine lv_bipush (v := -9) hx hb dX5_cheapest_3 (by decide +kernel) ?_
  refine lv_istore_n (lv' := [(2, .int (-9 : Int32)), (1, .int (-9 : Int32)), (0, .ref (A 0))]) hx hb dX5_cheapest_5 rfl hl (by decide) rfl (fun ls hl => ?_)
  refine lv_iconst (v := 0) hx hb dX5_cheapest_6 (by decide) ?_
  refine lv_istore_n (lv' := [(3, .int (0 : Int32)), (2, .int (-9 : Int32)), (1, .int (-9 : Int32)), (0, .ref (A 0))]) hx hb dX5_cheapest_7 rfl hl (by decide) rfl (fun ls hl => ?_)
  refine lp_ind (P := fun (q8 : Int32 × Int32 × Int32 × St) => ∀ (H : Heap) (locs : List Loc) (ls : Array Slot), va_P D vwCl (cM cI A q8.2.2.2) H → va_D AA (cM cI A q8.2.2.2) → va_S AA s.heap H locs → lv_has ls 5 [(0, .ref (A 0)), (1, .int q8.1), (2, .int q8.2.1), (3, .int q8.2.2.1)] → W p l e rm_X5_cheapest s m args below meth c H locs 0 0 Q (F0 m 8 ls [])) hf ?_ H locs ls hP hD hS (lv_sub hl [3, 2, 1, 0] rfl)
  clear hf hP hD hS hl
  intro nx8 ih8 q8 hf H locs ls hP hD hS hl
  refine lv_iload_n hx hb dX5_cheapest_8 rfl (lv_at hl 3 rfl) ?_
  refine lv_aload_n hx hb dX5_cheapest_9 rfl (lv_at hl 0 rfl) ?_
  refine va_get (D := D) (ci := 5) (v := .int (q8.2.2.2 16 0)) (C := RX5) (T := TX5) (N := 27) hx hb hts hw5 hown hK hP 0 cM_at0 rfl 8 (by decide) k58 (fun _ h9 => h9) rfl dX5_cheapest_10 ?_
  refine lv_icmp_ge (tgt := 66) hx hb dX5_cheapest_13 (by decide) (fun c_1 => ?_) (fun c_1 => ?_)
  · replace hf := if_t c_1 hf
    refine lv_iload_n hx hb dX5_cheapest_66 rfl (lv_at hl 1 rfl) ?_
    exact hend (q8.1, q8.2.2.2) H locs _ _ hf hP hS dX5_cheapest_67
  · replace hf := if_f c_1 hf
    refine lv_aload_n hx hb dX5_cheapest_16 rfl (lv_at hl 0 rfl) ?_
    refine va_get (D := D) (ci := 5) (v := .ref (A 4)) (C := RX5) (T := TX5) (N := 27) hx hb hts hw5 hown hK hP 0 cM_at0 rfl 3 (by decide) k19 (fun _ h9 => h9) rfl dX5_cheapest_17 ?_
    refine lv_iload_n hx hb dX5_cheapest_20 rfl (lv_at hl 3 rfl) ?_
    obtain ⟨c_2, hf⟩ := gi_e hf
    refine va_iald hx hb hK hP 4 0 cM_at4 rfl c_2 dX5_cheapest_21 ?_
    refine lv_if_le (tgt := 30) hx hb dX5_cheapest_22 (by decide) (fun c_3 => ?_) (fun c_3 => ?_)
    · replace hf := if_t c_3 hf
      refine lv_aload_n hx hb dX5_cheapest_30 rfl (lv_at hl 0 rfl) ?_
      refine lv_iload_n hx hb dX5_cheapest_31 rfl (lv_at hl 3 rfl) ?_
      obtain ⟨a_4, ha_4, hf⟩ := bd_e hf
      refine Ct.callV (As := [.int q8.2.2.1]) (rest := []) (st1 := [.int a_4.1]) (c_X5_fewestOf l D cI A q8.2.2.2 q8.2.2.1 a_4 ha_4) hx hb hml hown hts (cwV 1 hts gX5_cheapest_X5_fewestOf rfl rfl rfl hd_X5_fewestOf ⟨Nat.le_of_ble_eq_true rfl, Nat.le_of_ble_eq_true rfl⟩) (va_recv hK hP (ci := 5) (q0 := 0) rfl cM_at0) (Ln.id rfl) hA hK hP hD hS rfl hl.1 rfl rfl (Nat.le_of_ble_eq_true rfl) dX5_cheapest_32 (fun H locs hP hD hS => ?_)
      replace hP : va_P D vwCl (cM cI A a_4.2) H := hP
      replace hD : va_D AA (cM cI A a_4.2) := hD
      refine lv_istore (lv' := [(4, .int a_4.1), (0, .ref (A 0)), (1, .int q8.1), (2, .int q8.2.1), (3, .int q8.2.2.1)]) hx hb dX5_cheapest_35 hl (by decide) rfl (fun ls hl => ?_)
      refine lv_iload hx hb dX5_cheapest_37 (lv_at hl 0 rfl) ?_
      refine lv_if_lt (tgt := 60) hx hb dX5_cheapest_39 (by decide) (fun c_5 => ?_) (fun c_5 => ?_)
      · replace hf := if_t c_5 hf
        obtain ⟨v_6, ev_6, hf⟩ := nm_e hf
        refine lv_iinc (v := v_6) (lv' := [(3, .int v_6), (4, .int a_4.1), (0, .ref (A 0)), (1, .int q8.1), (2, .int q8.2.1)]) hx hb dX5_cheapest_60 hl (k := 4) rfl (by rw [ev_6]; rfl) (by decide) rfl (fun ls hl => ?_)
        refine lv_goto (tgt := 8) hx hb dX5_cheapest_63 (by decide) ?_
        exact ih8 (q8.1, q8.2.1, v_6, a_4.2) hf H locs ls hP hD hS (lv_sub hl [2, 3, 4, 0] rfl)
      · replace hf := if_f c_5 hf
        refine lv_iload_n hx hb dX5_cheapest_42 rfl (lv_at hl 2 rfl) ?_
        refine lv_if_lt (tgt := 55) hx hb dX5_cheapest_43 (by decide) (fun c_7 => ?_) (fun c_7 => ?_)
        · replace hf := if_t c_7 hf
          refine lv_iload_n hx hb dX5_cheapest_55 rfl (lv_at hl 4 rfl) ?_
          refine lv_istore_n (lv' := [(1, .int q8.2.2.1), (4, .int a_4.1), (0, .ref (A 0)), (2, .int q8.2.1), (3, .int q8.2.2.1)]) hx hb dX5_cheapest_56 rfl hl (by decide) rfl (fun ls hl => ?_)
          refine lv_iload hx hb dX5_cheapest_57 (lv_at hl 1 rfl) ?_
          refine lv_istore_n (lv' := [(2, .int a_4.1), (1, .int q8.2.2.1), (4, .int a_4.1), (0, .ref (A 0)), (3, .int q8.2.2.1)]) hx hb dX5_cheapest_59 rfl hl (by decide) rfl (fun ls hl => ?_)
          obtain ⟨v_8, ev_8, hf⟩ := nm_e hf
          refine lv_iinc (v := v_8) (lv' := [(3, .int v_8), (2, .int a_4.1), (1, .int q8.2.2.1), (4, .int a_4.1), (0, .ref (A 0))]) hx hb dX5_cheapest_60 hl (k := 4) rfl (by rw [ev_8]; rfl) (by decide) rfl (fun ls hl => ?_)
          refine lv_goto (tgt := 8) hx hb dX5_cheapest_63 (by decide) ?_
          exact ih8 (q8.2.2.1, a_4.1, v_8, a_4.2) hf H locs ls hP hD hS (lv_sub hl [4, 2, 1, 0] rfl)
        · replace hf := if_f c_7 hf
          refine lv_iload hx hb dX5_cheapest_46 (lv_at hl 0 rfl) ?_
          refine lv_iload_n hx hb dX5_cheapest_48 rfl (lv_at hl 3 rfl) ?_
          refine lv_icmp_lt (tgt := 55) hx hb dX5_cheapest_49 (by decide) (fun c_9 => ?_) (fun c_9 => ?_)
          · replace hf := if_t c_9 hf
            refine lv_iload_n hx hb dX5_cheapest_55 rfl (lv_at hl 4 rfl) ?_
            refine lv_istore_n (lv' := [(1, .int q8.2.2.1), (4, .int a_4.1), (0, .ref (A 0)), (2, .int q8.2.1), (3, .int q8.2.2.1)]) hx hb dX5_cheapest_56 rfl hl (by decide) rfl (fun ls hl => ?_)
            refine lv_iload hx hb dX5_cheapest_57 (lv_at hl 1 rfl) ?_
            refine lv_istore_n (lv' := [(2, .int a_4.1), (1, .int q8.2.2.1), (4, .int a_4.1), (0, .ref (A 0)), (3, .int q8.2.2.1)]) hx hb dX5_cheapest_59 rfl hl (by decide) rfl (fun ls hl => ?_)
            obtain ⟨v_10, ev_10, hf⟩ := nm_e hf
            refine lv_iinc (v := v_10) (lv' := [(3, .int v_10), (2, .int a_4.1), (1, .int q8.2.2.1), (4, .int a_4.1), (0, .ref (A 0))]) hx hb dX5_cheapest_60 hl (k := 4) rfl (by rw [ev_10]; rfl) (by decide) rfl (fun ls hl => ?_)
            refine lv_goto (tgt := 8) hx hb dX5_cheapest_63 (by decide) ?_
            exact ih8 (q8.2.2.1, a_4.1, v_10, a_4.2) hf H locs ls hP hD hS (lv_sub hl [4, 2, 1, 0] rfl)
          · replace hf := if_f c_9 hf
            refine lv_goto (tgt := 60) hx hb dX5_cheapest_52 (by decide) ?_
            obtain ⟨v_11, ev_11, hf⟩ := nm_e hf
            refine lv_iinc (v := v_11) (lv' := [(3, .int v_11), (4, .int a_4.1), (0, .ref (A 0)), (1, .int q8.1), (2, .int q8.2.1)]) hx hb dX5_cheapest_60 hl (k := 4) rfl (by rw [ev_11]; rfl) (by decide) rfl (fun ls hl => ?_)
            refine lv_goto (tgt := 8) hx hb dX5_cheapest_63 (by decide) ?_
            exact ih8 (q8.1, q8.2.1, v_11, a_4.2) hf H locs ls hP hD hS (lv_sub hl [2, 3, 4, 0] rfl)
    · replace hf := if_f c_3 hf
      refine lv_bipush (v := -9) hx hb dX5_cheapest_25 (by decide +kernel) ?_
      refine lv_goto (tgt := 35) hx hb dX5_cheapest_27 (by decide) ?_
      refine lv_istore (lv' := [(4, .int (-9 : Int32)), (0, .ref (A 0)), (1, .int q8.1), (2, .int q8.2.1), (3, .int q8.2.2.1)]) hx hb dX5_cheapest_35 hl (by decide) rfl (fun ls hl => ?_)
      refine lv_iload hx hb dX5_cheapest_37 (lv_at hl 0 rfl) ?_
      refine lv_if_lt (tgt := 60) hx hb dX5_cheapest_39 (by decide) (fun _ => ?_) (fun c0 => absurd c0 (by decide))
      obtain ⟨v_12, ev_12, hf⟩ := nm_e hf
      refine lv_iinc (v := v_12) (lv' := [(3, .int v_12), (4, .int (-9 : Int32)), (0, .ref (A 0)), (1, .int q8.1), (2, .int q8.2.1)]) hx hb dX5_cheapest_60 hl (k := 4) rfl (by rw [ev_12]; rfl) (by decide) rfl (fun ls hl => ?_)
      refine lv_goto (tgt := 8) hx hb dX5_cheapest_63 (by decide) ?_
      exact ih8 (q8.1, q8.2.1, v_12, q8.2.2.2) hf H locs ls hP hD hS (lv_sub hl [2, 3, 4, 0] rfl)

def f_X5_canRiseOnes (M : St) : Option (Int32) := (lp (fun (nx4 : (Int32 × Int32) → Option (Int32)) (q4 : Int32 × Int32) => (if (M 16 0) ≤ q4.2 then (some q4.1) else (bd (f_X5_canRise M q4.2) fun a_2 => (if a_2 = 0 then (nm (q4.1 + (0 : Int32)) fun v_4 => (nm (q4.2 + (1 : Int32)) fun v_5 => (nx4 (v_4, v_5)))) else (nm (q4.1 + (1 : Int32)) fun v_6 => (nm (q4.2 + (1 : Int32)) fun v_7 => (nx4 (v_6, v_7)))))))) 1000 ((0 : Int32), (0 : Int32)))
def rm_X5_canRiseOnes : Room := { frames := 4, cells := 0, slots := 0, locals := 90 }
theorem hd_X5_canRiseOnes : yX5_canRiseOnes.cls = RX5 ∧ yX5_canRiseOnes.cls ≠ "java/lang/invoke/MethodHandle" ∧ yX5_canRiseOnes.cls ≠ "java/lang/invoke/VarHandle" ∧ (parseMethodDescriptor yX5_canRiseOnes.desc).map (fun d => d.parameters.length) = some 0 := by decide +kernel
set_option maxRecDepth 100000 in
set_option maxHeartbeats 4000000 in
theorem c_X5_canRiseOnes (l : Launch) (D : va_G) (cI : ClassId) (A : Nat → Nat) (M : St) (r : Int32) (hf : f_X5_canRiseOnes M = some r) : Ct l yX5_canRiseOnes wsX5_canRiseOnes rm_X5_canRiseOnes D cI (cM cI A M) (cM cI A M) [.ref (A 0)] (some (.int r)) := by
  unfold f_X5_canRiseOnes at hf
  refine Ct.ofI (cc := cX5_canRiseOnes) (maxL := 3) (by decide +kernel) rfl (Nat.le_of_ble_eq_true rfl) ?_
  intro p e s m args below meth c AA Q H locs ls hx hb hml hown hts hA hK hP hD hS hl hend0
  have hend : ∀ (r1 : Int32) (H : Heap) (locs : List Loc) (pc : Nat) (ls : Array Slot), some r1 = some r → va_P D vwCl (cM cI A M) H → va_S AA s.heap H locs → decode cX5_canRiseOnes pc = .ok (.ireturn, 1) → W p l e rm_X5_canRiseOnes s m args below meth c H locs 0 0 Q (F0 m pc ls [.int r1]) := by
    intro r1 H locs pc ls e1 hP hS hd; cases e1; exact hend0 H locs pc ls hP hS hd
  clear hend0
  have hw5 : ∀ w ∈ wsX50, w ∈ wsX5_canRiseOnes := by decide +kernel
  have k58 := hts (.fieldLink RX5 58 "AnchorsForConfessionModel" "ships" "I") (by decide +kernel)
  replace hl : lv_has ls 3 [(0, .ref (A 0))] := hl
  refine lv_iconst (v := 0) hx hb dX5_canRiseOnes_0 (by decide) ?_
  refine lv_istore_n (lv' := [(1, .int (0 : Int32)), (0, .ref (A 0))]) hx hb dX5_canRiseOnes_1 rfl hl (by decide) rfl (fun ls hl => ?_)
  refine lv_iconst (v := 0) hx hb dX5_canRiseOnes_2 (by decide) ?_
  refine lv_istore_n (lv' := [(2, .int (0 : Int32)), (1, .int (0 : Int32)), (0, .ref (A 0))]) hx hb dX5_canRiseOnes_3 rfl hl (by decide) rfl (fun ls hl => ?_)
  refine lp_ind (P := fun (q4 : Int32 × Int32) => ∀ (H : Heap) (locs : List Loc) (ls : Array Slot), va_P D vwCl (cM cI A M) H → va_D AA (cM cI A M) → va_S AA s.heap H locs → lv_has ls 3 [(0, .ref (A 0)), (1, .int q4.1), (2, .int q4.2)] → W p l e rm_X5_canRiseOnes s m args below meth c H locs 0 0 Q (F0 m 4 ls [])) hf ?_ H locs ls hP hD hS (lv_sub hl [2, 1, 0] rfl)
  clear hf hP hD hS hl
  intro nx4 ih4 q4 hf H locs ls hP hD hS hl
  refine lv_iload_n hx hb dX5_canRiseOnes_4 rfl (lv_at hl 2 rfl) ?_
  refine lv_aload_n hx hb dX5_canRiseOnes_5 rfl (lv_at hl 0 rfl) ?_
  refine va_get (D := D) (ci := 5) (v := .int (M 16 0)) (C := RX5) (T := TX5) (N := 27) hx hb hts hw5 hown hK hP 0 cM_at0 rfl 8 (by decide) k58 (fun _ h9 => h9) rfl dX5_canRiseOnes_6 ?_
  refine lv_icmp_ge (tgt := 34) hx hb dX5_canRiseOnes_9 (by decide) (fun c_1 => ?_) (fun c_1 => ?_)
  · replace hf := if_t c_1 hf
    refine lv_iload_n hx hb dX5_canRiseOnes_34 rfl (lv_at hl 1 rfl) ?_
    exact hend q4.1 H locs _ _ hf hP hS dX5_canRiseOnes_35
  · replace hf := if_f c_1 hf
    refine lv_iload_n hx hb dX5_canRiseOnes_12 rfl (lv_at hl 1 rfl) ?_
    refine lv_aload_n hx hb dX5_canRiseOnes_13 rfl (lv_at hl 0 rfl) ?_
    refine lv_iload_n hx hb dX5_canRiseOnes_14 rfl (lv_at hl 2 rfl) ?_
    obtain ⟨a_2, ha_2, hf⟩ := bd_e hf
    refine Ct.callV (As := [.int q4.2]) (rest := [.int q4.1]) (st1 := [.int a_2, .int q4.1]) (c_X5_canRise l D cI A M q4.2 a_2 ha_2) hx hb hml hown hts (cwV 1 hts gX5_canRiseOnes_X5_canRise rfl rfl rfl hd_X5_canRise ⟨Nat.le_of_ble_eq_true rfl, Nat.le_of_ble_eq_true rfl⟩) (va_recv hK hP (ci := 5) (q0 := 0) rfl cM_at0) (Ln.id rfl) hA hK hP hD hS rfl hl.1 rfl rfl (Nat.le_of_ble_eq_true rfl) dX5_canRiseOnes_15 (fun H locs hP hD hS => ?_)
    refine lv_if_eq (tgt := 25) hx hb dX5_canRiseOnes_18 (by decide) (fun c_3 => ?_) (fun c_3 => ?_)
    · replace hf := if_t c_3 hf
      refine lv_iconst (v := 0) hx hb dX5_canRiseOnes_25 (by decide) ?_
      refine lv_iadd hx hb dX5_canRiseOnes_26 ?_
      refine lv_topi (fun v_4 ev_4 => ?_)
      replace hf := nm_at ev_4 hf
      refine lv_istore_n (lv' := [(1, .int v_4), (0, .ref (A 0)), (2, .int q4.2)]) hx hb dX5_canRiseOnes_27 rfl hl (by decide) rfl (fun ls hl => ?_)
      obtain ⟨v_5, ev_5, hf⟩ := nm_e hf
      refine lv_iinc (v := v_5) (lv' := [(2, .int v_5), (1, .int v_4), (0, .ref (A 0))]) hx hb dX5_canRiseOnes_28 hl (k := 2) rfl (by rw [ev_5]; rfl) (by decide) rfl (fun ls hl => ?_)
      refine lv_goto (tgt := 4) hx hb dX5_canRiseOnes_31 (by decide) ?_
      exact ih4 (v_4, v_5) hf H locs ls hP hD hS (lv_sub hl [2, 1, 0] rfl)
    · replace hf := if_f c_3 hf
      refine lv_iconst (v := 1) hx hb dX5_canRiseOnes_21 (by decide) ?_
      refine lv_goto (tgt := 26) hx hb dX5_canRiseOnes_22 (by decide) ?_
      refine lv_iadd hx hb dX5_canRiseOnes_26 ?_
      refine lv_topi (fun v_6 ev_6 => ?_)
      replace hf := nm_at ev_6 hf
      refine lv_istore_n (lv' := [(1, .int v_6), (0, .ref (A 0)), (2, .int q4.2)]) hx hb dX5_canRiseOnes_27 rfl hl (by decide) rfl (fun ls hl => ?_)
      obtain ⟨v_7, ev_7, hf⟩ := nm_e hf
      refine lv_iinc (v := v_7) (lv' := [(2, .int v_7), (1, .int v_6), (0, .ref (A 0))]) hx hb dX5_canRiseOnes_28 hl (k := 2) rfl (by rw [ev_7]; rfl) (by decide) rfl (fun ls hl => ?_)
      refine lv_goto (tgt := 4) hx hb dX5_canRiseOnes_31 (by decide) ?_
      exact ih4 (v_6, v_7) hf H locs ls hP hD hS (lv_sub hl [2, 1, 0] rfl)

def f_X5_berth (M : St) (p1 : Int32) : Option (Int32 × St) := (bd (f_X5_isMan M p1) fun a_1 => (if a_1 = 0 then (bd (f_X5_no M (-1 : Int32)) fun a_18 => (some (a_18.1, a_18.2))) else (gi p1 8 (nm (M 7 (p1).toNatClampNeg) fun v_4 => (bd (f_X5_canRiseOnes M) fun a_5 => (lp (fun (nx33 : (Int32 × Int32 × Int32 × St) → Option (Int32 × St)) (q33 : Int32 × Int32 × Int32 × St) => (if (q33.2.2.2 16 0) ≤ q33.2.2.1 then (gi p1 8 (nm (su q33.2.2.2 7 (p1).toNatClampNeg v_4) fun h_8 => (some (q33.1, h_8)))) else (gi q33.2.2.1 5 (if (q33.2.2.2 3 (q33.2.2.1).toNatClampNeg) ≤ 0 then (gi p1 8 (nm (su q33.2.2.2 7 (p1).toNatClampNeg q33.2.2.1) fun h_12 => (bd (f_X5_canRiseOnes h_12) fun a_13 => (if q33.2.1 < a_13 then (nm (q33.2.2.1 + (1 : Int32)) fun v_15 => (nx33 (q33.2.2.1, a_13, v_15, h_12))) else (nm (q33.2.2.1 + (1 : Int32)) fun v_16 => (nx33 (q33.1, q33.2.1, v_16, h_12))))))) else (nm (q33.2.2.1 + (1 : Int32)) fun v_17 => (nx33 (q33.1, q33.2.1, v_17, q33.2.2.2))))))) 1000 ((-9 : Int32), a_5, (0 : Int32), M)))))))
def rm_X5_berth : Room := { frames := 5, cells := 0, slots := 0, locals := 112 }
theorem hd_X5_berth : yX5_berth.cls = RX5 ∧ yX5_berth.cls ≠ "java/lang/invoke/MethodHandle" ∧ yX5_berth.cls ≠ "java/lang/invoke/VarHandle" ∧ (parseMethodDescriptor yX5_berth.desc).map (fun d => d.parameters.length) = some 1 := by decide +kernel
set_option maxRecDepth 100000 in
set_option maxHeartbeats 4000000 in
theorem c_X5_berth (l : Launch) (D : va_G) (cI : ClassId) (A : Nat → Nat) (M : St) (p1 : Int32) (r : Int32 × St) (hf : f_X5_berth M p1 = some r) : Ct l yX5_berth wsX5_berth rm_X5_berth D cI (cM cI A M) (cM cI A r.2) [.ref (A 0), .int p1] (some (.int r.1)) := by
  unfold f_X5_berth at hf
  refine Ct.ofI (cc := cX5_berth) (maxL := 7) (by decide +kernel) rfl (Nat.le_of_ble_eq_true rfl) ?_
  intro p e s m args below meth c AA Q H locs ls hx hb hml hown hts hA hK hP hD hS hl hend0
  have hend : ∀ (r1 : Int32 × St) (H : Heap) (locs : List Loc) (pc : Nat) (ls : Array Slot), some r1 = some r → va_P D vwCl (cM cI A r1.2) H → va_S AA s.heap H locs → decode cX5_berth pc = .ok (.ireturn, 1) → W p l e rm_X5_berth s m args below meth c H locs 0 0 Q (F0 m pc ls [.int r1.1]) := by
    intro r1 H locs pc ls e1 hP hS hd; cases e1; exact hend0 H locs pc ls hP hS hd
  clear hend0
  have hw5 : ∀ w ∈ wsX50, w ∈ wsX5_berth := by decide +kernel
  have k19 := hts (.fieldLink RX5 19 "AnchorsForConfessionModel" "out" "[I") (by decide +kernel)
  have k31 := hts (.fieldLink RX5 31 "AnchorsForConfessionModel" "aboard" "[I") (by decide +kernel)
  have k58 := hts (.fieldLink RX5 58 "AnchorsForConfessionModel" "ships" "I") (by decide +kernel)
  replace hl : lv_has ls 7 [(0, .ref (A 0)), (1, .int p1)] := hl
  refine lv_aload_n hx hb dX5_berth_0 rfl (lv_at hl 0 rfl) ?_
  refine lv_iload_n hx hb dX5_berth_1 rfl (lv_at hl 1 rfl) ?_
  obtain ⟨a_1, ha_1, hf⟩ := bd_e hf
  refine Ct.callV (As := [.int p1]) (rest := []) (st1 := [.int a_1]) (c_X5_isMan l D cI A M p1 a_1 ha_1) hx hb hml hown hts (cwV 1 hts gX5_berth_X5_isMan rfl rfl rfl hd_X5_isMan ⟨Nat.le_of_ble_eq_true rfl, Nat.le_of_ble_eq_true rfl⟩) (va_recv hK hP (ci := 5) (q0 := 0) rfl cM_at0) (Ln.id rfl) hA hK hP hD hS rfl hl.1 rfl rfl (Nat.le_of_ble_eq_true rfl) dX5_berth_2 (fun H locs hP hD hS => ?_)
  refine lv_if_ne (tgt := 14) hx hb dX5_berth_5 (by decide) (fun c_2 => ?_) (fun c_2 => ?_)
  · replace hf := if_f c_2 hf
    refine lv_aload_n hx hb dX5_berth_14 rfl (lv_at hl 0 rfl) ?_
    refine va_get (D := D) (ci := 5) (v := .ref (A 8)) (C := RX5) (T := TX5) (N := 27) hx hb hts hw5 hown hK hP 0 cM_at0 rfl 7 (by decide) k31 (fun _ h9 => h9) rfl dX5_berth_15 ?_
    refine lv_iload_n hx hb dX5_berth_18 rfl (lv_at hl 1 rfl) ?_
    obtain ⟨c_3, hf⟩ := gi_e hf
    refine va_iald hx hb hK hP 8 0 cM_at8 rfl c_3 dX5_berth_19 ?_
    refine lv_topi (fun v_4 ev_4 => ?_)
    replace hf := nm_at ev_4 hf
    refine lv_istore_n (lv' := [(2, .int v_4), (0, .ref (A 0)), (1, .int p1)]) hx hb dX5_berth_20 rfl hl (by decide) rfl (fun ls hl => ?_)
    refine lv_bipush (v := -9) hx hb dX5_berth_21 (by decide +kernel) ?_
    refine lv_istore_n (lv' := [(3, .int (-9 : Int32)), (2, .int v_4), (0, .ref (A 0)), (1, .int p1)]) hx hb dX5_berth_23 rfl hl (by decide) rfl (fun ls hl => ?_)
    refine lv_aload_n hx hb dX5_berth_24 rfl (lv_at hl 2 rfl) ?_
    obtain ⟨a_5, ha_5, hf⟩ := bd_e hf
    refine Ct.callV (As := []) (rest := []) (st1 := [.int a_5]) (c_X5_canRiseOnes l D cI A M a_5 ha_5) hx hb hml hown hts (cwV 0 hts gX5_berth_X5_canRiseOnes rfl rfl rfl hd_X5_canRiseOnes ⟨Nat.le_of_ble_eq_true rfl, Nat.le_of_ble_eq_true rfl⟩) (va_recv hK hP (ci := 5) (q0 := 0) rfl cM_at0) (Ln.id rfl) hA hK hP hD hS rfl hl.1 rfl rfl (Nat.le_of_ble_eq_true rfl) dX5_berth_25 (fun H locs hP hD hS => ?_)
    refine lv_istore (lv' := [(4, .int a_5), (3, .int (-9 : Int32)), (2, .int v_4), (0, .ref (A 0)), (1, .int p1)]) hx hb dX5_berth_28 hl (by decide) rfl (fun ls hl => ?_)
    refine lv_iconst (v := 0) hx hb dX5_berth_30 (by decide) ?_
    refine lv_istore (lv' := [(5, .int (0 : Int32)), (4, .int a_5), (3, .int (-9 : Int32)), (2, .int v_4), (0, .ref (A 0)), (1, .int p1)]) hx hb dX5_berth_31 hl (by decide) rfl (fun ls hl => ?_)
    refine lp_ind (P := fun (q33 : Int32 × Int32 × Int32 × St) => ∀ (H : Heap) (locs : List Loc) (ls : Array Slot), va_P D vwCl (cM cI A q33.2.2.2) H → va_D AA (cM cI A q33.2.2.2) → va_S AA s.heap H locs → lv_has ls 7 [(0, .ref (A 0)), (1, .int p1), (2, .int v_4), (3, .int q33.1), (4, .int q33.2.1), (5, .int q33.2.2.1)] → W p l e rm_X5_berth s m args below meth c H locs 0 0 Q (F0 m 33 ls [])) hf ?_ H locs ls hP hD hS (lv_sub hl [4, 5, 3, 2, 1, 0] rfl)
    clear hf hP hD hS hl
    intro nx33 ih33 q33 hf H locs ls hP hD hS hl
    refine lv_iload hx hb dX5_berth_33 (lv_at hl 5 rfl) ?_
    refine lv_aload_n hx hb dX5_berth_35 rfl (lv_at hl 0 rfl) ?_
    refine va_get (D := D) (ci := 5) (v := .int (q33.2.2.2 16 0)) (C := RX5) (T := TX5) (N := 27) hx hb hts hw5 hown hK hP 0 cM_at0 rfl 8 (by decide) k58 (fun _ h9 => h9) rfl dX5_berth_36 ?_
    refine lv_icmp_ge (tgt := 92) hx hb dX5_berth_39 (by decide) (fun c_6 => ?_) (fun c_6 => ?_)
    · replace hf := if_t c_6 hf
      refine lv_aload_n hx hb dX5_berth_92 rfl (lv_at hl 0 rfl) ?_
      refine va_get (D := D) (ci := 5) (v := .ref (A 8)) (C := RX5) (T := TX5) (N := 27) hx hb hts hw5 hown hK hP 0 cM_at0 rfl 7 (by decide) k31 (fun _ h9 => h9) rfl dX5_berth_93 ?_
      refine lv_iload_n hx hb dX5_berth_96 rfl (lv_at hl 1 rfl) ?_
      refine lv_iload_n hx hb dX5_berth_97 rfl (lv_at hl 2 rfl) ?_
      obtain ⟨c_7, hf⟩ := gi_e hf
      refine va_iast hx hb hK hP hD hS 8 0 cM_at8 rfl c_7 dX5_berth_98 (fun H locs hP hD hS => ?_)
      obtain ⟨h_8, eh_8, hf⟩ := nm_e hf
      rw [cM_su8, ← eh_8] at hP hD
      refine lv_iload_n hx hb dX5_berth_99 rfl (lv_at hl 3 rfl) ?_
      exact hend (q33.1, h_8) H locs _ _ hf hP hS dX5_berth_100
    · replace hf := if_f c_6 hf
      refine lv_aload_n hx hb dX5_berth_42 rfl (lv_at hl 0 rfl) ?_
      refine va_get (D := D) (ci := 5) (v := .ref (A 4)) (C := RX5) (T := TX5) (N := 27) hx hb hts hw5 hown hK hP 0 cM_at0 rfl 3 (by decide) k19 (fun _ h9 => h9) rfl dX5_berth_43 ?_
      refine lv_iload hx hb dX5_berth_46 (lv_at hl 5 rfl) ?_
      obtain ⟨c_9, hf⟩ := gi_e hf
      refine va_iald hx hb hK hP 4 0 cM_at4 rfl c_9 dX5_berth_48 ?_
      refine lv_if_le (tgt := 55) hx hb dX5_berth_49 (by decide) (fun c_10 => ?_) (fun c_10 => ?_)
      · replace hf := if_t c_10 hf
        refine lv_aload_n hx hb dX5_berth_55 rfl (lv_at hl 0 rfl) ?_
        refine va_get (D := D) (ci := 5) (v := .ref (A 8)) (C := RX5) (T := TX5) (N := 27) hx hb hts hw5 hown hK hP 0 cM_at0 rfl 7 (by decide) k31 (fun _ h9 => h9) rfl dX5_berth_56 ?_
        refine lv_iload_n hx hb dX5_berth_59 rfl (lv_at hl 1 rfl) ?_
        refine lv_iload hx hb dX5_berth_60 (lv_at hl 5 rfl) ?_
        obtain ⟨c_11, hf⟩ := gi_e hf
        refine va_iast hx hb hK hP hD hS 8 0 cM_at8 rfl c_11 dX5_berth_62 (fun H locs hP hD hS => ?_)
        obtain ⟨h_12, eh_12, hf⟩ := nm_e hf
        rw [cM_su8, ← eh_12] at hP hD
        refine lv_aload_n hx hb dX5_berth_63 rfl (lv_at hl 0 rfl) ?_
        obtain ⟨a_13, ha_13, hf⟩ := bd_e hf
        refine Ct.callV (As := []) (rest := []) (st1 := [.int a_13]) (c_X5_canRiseOnes l D cI A h_12 a_13 ha_13) hx hb hml hown hts (cwV 0 hts gX5_berth_X5_canRiseOnes rfl rfl rfl hd_X5_canRiseOnes ⟨Nat.le_of_ble_eq_true rfl, Nat.le_of_ble_eq_true rfl⟩) (va_recv hK hP (ci := 5) (q0 := 0) rfl cM_at0) (Ln.id rfl) hA hK hP hD hS rfl hl.1 rfl rfl (Nat.le_of_ble_eq_true rfl) dX5_berth_64 (fun H locs hP hD hS => ?_)
        refine lv_istore (lv' := [(6, .int a_13), (0, .ref (A 0)), (1, .int p1), (2, .int v_4), (3, .int q33.1), (4, .int q33.2.1), (5, .int q33.2.2.1)]) hx hb dX5_berth_67 hl (by decide) rfl (fun ls hl => ?_)
        refine lv_iload hx hb dX5_berth_69 (lv_at hl 0 rfl) ?_
        refine lv_iload hx hb dX5_berth_71 (lv_at hl 5 rfl) ?_
        refine lv_icmp_gt (tgt := 79) hx hb dX5_berth_73 (by decide) (fun c_14 => ?_) (fun c_14 => ?_)
        · replace hf := if_t c_14 hf
          refine lv_iload hx hb dX5_berth_79 (lv_at hl 6 rfl) ?_
          refine lv_istore_n (lv' := [(3, .int q33.2.2.1), (6, .int a_13), (0, .ref (A 0)), (1, .int p1), (2, .int v_4), (4, .int q33.2.1), (5, .int q33.2.2.1)]) hx hb dX5_berth_81 rfl hl (by decide) rfl (fun ls hl => ?_)
          refine lv_iload hx hb dX5_berth_82 (lv_at hl 1 rfl) ?_
          refine lv_istore (lv' := [(4, .int a_13), (3, .int q33.2.2.1), (6, .int a_13), (0, .ref (A 0)), (1, .int p1), (2, .int v_4), (5, .int q33.2.2.1)]) hx hb dX5_berth_84 hl (by decide) rfl (fun ls hl => ?_)
          obtain ⟨v_15, ev_15, hf⟩ := nm_e hf
          refine lv_iinc (v := v_15) (lv' := [(5, .int v_15), (4, .int a_13), (3, .int q33.2.2.1), (6, .int a_13), (0, .ref (A 0)), (1, .int p1), (2, .int v_4)]) hx hb dX5_berth_86 hl (k := 6) rfl (by rw [ev_15]; rfl) (by decide) rfl (fun ls hl => ?_)
          refine lv_goto (tgt := 33) hx hb dX5_berth_89 (by decide) ?_
          exact ih33 (q33.2.2.1, a_13, v_15, h_12) hf H locs ls hP hD hS (lv_sub hl [4, 5, 6, 2, 1, 0] rfl)
        · replace hf := if_f c_14 hf
          refine lv_goto (tgt := 86) hx hb dX5_berth_76 (by decide) ?_
          obtain ⟨v_16, ev_16, hf⟩ := nm_e hf
          refine lv_iinc (v := v_16) (lv' := [(5, .int v_16), (6, .int a_13), (0, .ref (A 0)), (1, .int p1), (2, .int v_4), (3, .int q33.1), (4, .int q33.2.1)]) hx hb dX5_berth_86 hl (k := 6) rfl (by rw [ev_16]; rfl) (by decide) rfl (fun ls hl => ?_)
          refine lv_goto (tgt := 33) hx hb dX5_berth_89 (by decide) ?_
          exact ih33 (q33.1, q33.2.1, v_16, h_12) hf H locs ls hP hD hS (lv_sub hl [2, 3, 4, 5, 6, 0] rfl)
      · replace hf := if_f c_10 hf
        refine lv_goto (tgt := 86) hx hb dX5_berth_52 (by decide) ?_
        obtain ⟨v_17, ev_17, hf⟩ := nm_e hf
        refine lv_iinc (v := v_17) (lv' := [(5, .int v_17), (0, .ref (A 0)), (1, .int p1), (2, .int v_4), (3, .int q33.1), (4, .int q33.2.1)]) hx hb dX5_berth_86 hl (k := 5) rfl (by rw [ev_17]; rfl) (by decide) rfl (fun ls hl => ?_)
        refine lv_goto (tgt := 33) hx hb dX5_berth_89 (by decide) ?_
        exact ih33 (q33.1, q33.2.1, v_17, q33.2.2.2) hf H locs ls hP hD hS (lv_sub hl [1, 2, 3, 4, 5, 0] rfl)
  · replace hf := if_t c_2 hf
    refine lv_aload_n hx hb dX5_berth_8 rfl (lv_at hl 0 rfl) ?_
    refine lv_iconst (v := -1) hx hb dX5_berth_9 (by decide) ?_
    obtain ⟨a_18, ha_18, hf⟩ := bd_e hf
    refine Ct.callV (As := [.int (-1 : Int32)]) (rest := []) (st1 := [.int a_18.1]) (c_X5_no l D cI A M (-1 : Int32) a_18 ha_18) hx hb hml hown hts (cwV 1 hts gX5_berth_X5_no rfl rfl rfl hd_X5_no ⟨Nat.le_of_ble_eq_true rfl, Nat.le_of_ble_eq_true rfl⟩) (va_recv hK hP (ci := 5) (q0 := 0) rfl cM_at0) (Ln.id rfl) hA hK hP hD hS rfl hl.1 rfl rfl (Nat.le_of_ble_eq_true rfl) dX5_berth_10 (fun H locs hP hD hS => ?_)
    replace hP : va_P D vwCl (cM cI A a_18.2) H := hP
    replace hD : va_D AA (cM cI A a_18.2) := hD
    exact hend (a_18.1, a_18.2) H locs _ _ hf hP hS dX5_berth_13

def f_X5_rise (M : St) : Option (Int32) := (bd (f_X5_canRiseOnes M) fun a_1 => (some a_1))
def rm_X5_rise : Room := { frames := 5, cells := 0, slots := 0, locals := 112 }
theorem hd_X5_rise : yX5_rise.cls = RX5 ∧ yX5_rise.cls ≠ "java/lang/invoke/MethodHandle" ∧ yX5_rise.cls ≠ "java/lang/invoke/VarHandle" ∧ (parseMethodDescriptor yX5_rise.desc).map (fun d => d.parameters.length) = some 0 := by decide +kernel
set_option maxRecDepth 100000 in
set_option maxHeartbeats 4000000 in
theorem c_X5_rise (l : Launch) (D : va_G) (cI : ClassId) (A : Nat → Nat) (M : St) (r : Int32) (hf : f_X5_rise M = some r) : Ct l yX5_rise wsX5_rise rm_X5_rise D cI (cM cI A M) (cM cI A M) [.ref (A 0)] (some (.int r)) := by
  unfold f_X5_rise at hf
  refine Ct.ofI (cc := cX5_rise) (maxL := 1) (by decide +kernel) rfl (Nat.le_of_ble_eq_true rfl) ?_
  intro p e s m args below meth c AA Q H locs ls hx hb hml hown hts hA hK hP hD hS hl hend0
  have hend : ∀ (r1 : Int32) (H : Heap) (locs : List Loc) (pc : Nat) (ls : Array Slot), some r1 = some r → va_P D vwCl (cM cI A M) H → va_S AA s.heap H locs → decode cX5_rise pc = .ok (.ireturn, 1) → W p l e rm_X5_rise s m args below meth c H locs 0 0 Q (F0 m pc ls [.int r1]) := by
    intro r1 H locs pc ls e1 hP hS hd; cases e1; exact hend0 H locs pc ls hP hS hd
  clear hend0
  replace hl : lv_has ls 1 [(0, .ref (A 0))] := hl
  refine lv_aload_n hx hb dX5_rise_0 rfl (lv_at hl 0 rfl) ?_
  obtain ⟨a_1, ha_1, hf⟩ := bd_e hf
  refine Ct.callV (As := []) (rest := []) (st1 := [.int a_1]) (c_X5_canRiseOnes l D cI A M a_1 ha_1) hx hb hml hown hts (cwV 0 hts gX5_rise_X5_canRiseOnes rfl rfl rfl hd_X5_canRiseOnes ⟨Nat.le_of_ble_eq_true rfl, Nat.le_of_ble_eq_true rfl⟩) (va_recv hK hP (ci := 5) (q0 := 0) rfl cM_at0) (Ln.id rfl) hA hK hP hD hS rfl hl.1 rfl rfl (Nat.le_of_ble_eq_true rfl) dX5_rise_1 (fun H locs hP hD hS => ?_)
  exact hend a_1 H locs _ _ hf hP hS dX5_rise_4

def f_X5_riseDealing (M : St) (p1 : Int32) (p2 : Int32) : Option (Int32 × St) := (gi p1 8 (nm (M 7 (p1).toNatClampNeg) fun v_2 => (gi p2 8 (gi p1 8 (nm (su M 7 (p1).toNatClampNeg (M 7 (p2).toNatClampNeg)) fun h_5 => (gi p2 8 (nm (su h_5 7 (p2).toNatClampNeg v_2) fun h_7 => (bd (f_X5_canRiseOnes h_7) fun a_8 => (gi p1 8 (gi p2 8 (nm (su h_7 7 (p2).toNatClampNeg (h_7 7 (p1).toNatClampNeg)) fun h_11 => (gi p1 8 (nm (su h_11 7 (p1).toNatClampNeg v_2) fun h_13 => (some (a_8, h_13)))))))))))))))
def rm_X5_riseDealing : Room := { frames := 5, cells := 0, slots := 0, locals := 112 }
theorem hd_X5_riseDealing : yX5_riseDealing.cls = RX5 ∧ yX5_riseDealing.cls ≠ "java/lang/invoke/MethodHandle" ∧ yX5_riseDealing.cls ≠ "java/lang/invoke/VarHandle" ∧ (parseMethodDescriptor yX5_riseDealing.desc).map (fun d => d.parameters.length) = some 2 := by decide +kernel
set_option maxRecDepth 100000 in
set_option maxHeartbeats 4000000 in
theorem c_X5_riseDealing (l : Launch) (D : va_G) (cI : ClassId) (A : Nat → Nat) (M : St) (p1 : Int32) (p2 : Int32) (r : Int32 × St) (hf : f_X5_riseDealing M p1 p2 = some r) : Ct l yX5_riseDealing wsX5_riseDealing rm_X5_riseDealing D cI (cM cI A M) (cM cI A r.2) [.ref (A 0), .int p1, .int p2] (some (.int r.1)) := by
  unfold f_X5_riseDealing at hf
  refine Ct.ofI (cc := cX5_riseDealing) (maxL := 5) (by decide +kernel) rfl (Nat.le_of_ble_eq_true rfl) ?_
  intro p e s m args below meth c AA Q H locs ls hx hb hml hown hts hA hK hP hD hS hl hend0
  have hend : ∀ (r1 : Int32 × St) (H : Heap) (locs : List Loc) (pc : Nat) (ls : Array Slot), some r1 = some r → va_P D vwCl (cM cI A r1.2) H → va_S AA s.heap H locs → decode cX5_riseDealing pc = .ok (.ireturn, 1) → W p l e rm_X5_riseDealing s m args below meth c H locs 0 0 Q (F0 m pc ls [.int r1.1]) := by
    intro r1 H locs pc ls e1 hP hS hd; cases e1; exact hend0 H locs pc ls hP hS hd
  clear hend0
  have hw5 : ∀ w ∈ wsX50, w ∈ wsX5_riseDealing := by decide +kernel
  have k31 := hts (.fieldLink RX5 31 "AnchorsForConfessionModel" "aboard" "[I") (by decide +kernel)
  replace hl : lv_has ls 5 [(0, .ref (A 0)), (1, .int p1), (2, .int p2)] := hl
  refine lv_aload_n hx hb dX5_riseDealing_0 rfl (lv_at hl 0 rfl) ?_
  refine va_get (D := D) (ci := 5) (v := .ref (A 8)) (C := RX5) (T := TX5) (N := 27) hx hb hts hw5 hown hK hP 0 cM_at0 rfl 7 (by decide) k31 (fun _ h9 => h9) rfl dX5_riseDealing_1 ?_
  refine lv_iload_n hx hb dX5_riseDealing_4 rfl (lv_at hl 1 rfl) ?_
  obtain ⟨c_1, hf⟩ := gi_e hf
  refine va_iald hx hb hK hP 8 0 cM_at8 rfl c_1 dX5_riseDealing_5 ?_
  refine lv_topi (fun v_2 ev_2 => ?_)
  replace hf := nm_at ev_2 hf
  refine lv_istore_n (lv' := [(3, .int v_2), (0, .ref (A 0)), (1, .int p1), (2, .int p2)]) hx hb dX5_riseDealing_6 rfl hl (by decide) rfl (fun ls hl => ?_)
  refine lv_aload_n hx hb dX5_riseDealing_7 rfl (lv_at hl 1 rfl) ?_
  refine va_get (D := D) (ci := 5) (v := .ref (A 8)) (C := RX5) (T := TX5) (N := 27) hx hb hts hw5 hown hK hP 0 cM_at0 rfl 7 (by decide) k31 (fun _ h9 => h9) rfl dX5_riseDealing_8 ?_
  refine lv_iload_n hx hb dX5_riseDealing_11 rfl (lv_at hl 2 rfl) ?_
  refine lv_aload_n hx hb dX5_riseDealing_12 rfl (lv_at hl 1 rfl) ?_
  refine va_get (D := D) (ci := 5) (v := .ref (A 8)) (C := RX5) (T := TX5) (N := 27) hx hb hts hw5 hown hK hP 0 cM_at0 rfl 7 (by decide) k31 (fun _ h9 => h9) rfl dX5_riseDealing_13 ?_
  refine lv_iload_n hx hb dX5_riseDealing_16 rfl (lv_at hl 3 rfl) ?_
  obtain ⟨c_3, hf⟩ := gi_e hf
  refine va_iald hx hb hK hP 8 0 cM_at8 rfl c_3 dX5_riseDealing_17 ?_
  obtain ⟨c_4, hf⟩ := gi_e hf
  refine va_iast hx hb hK hP hD hS 8 0 cM_at8 rfl c_4 dX5_riseDealing_18 (fun H locs hP hD hS => ?_)
  obtain ⟨h_5, eh_5, hf⟩ := nm_e hf
  rw [cM_su8, ← eh_5] at hP hD
  refine lv_aload_n hx hb dX5_riseDealing_19 rfl (lv_at hl 1 rfl) ?_
  refine va_get (D := D) (ci := 5) (v := .ref (A 8)) (C := RX5) (T := TX5) (N := 27) hx hb hts hw5 hown hK hP 0 cM_at0 rfl 7 (by decide) k31 (fun _ h9 => h9) rfl dX5_riseDealing_20 ?_
  refine lv_iload_n hx hb dX5_riseDealing_23 rfl (lv_at hl 3 rfl) ?_
  refine lv_iload_n hx hb dX5_riseDealing_24 rfl (lv_at hl 0 rfl) ?_
  obtain ⟨c_6, hf⟩ := gi_e hf
  refine va_iast hx hb hK hP hD hS 8 0 cM_at8 rfl c_6 dX5_riseDealing_25 (fun H locs hP hD hS => ?_)
  obtain ⟨h_7, eh_7, hf⟩ := nm_e hf
  rw [cM_su8, ← eh_7] at hP hD
  refine lv_aload_n hx hb dX5_riseDealing_26 rfl (lv_at hl 1 rfl) ?_
  obtain ⟨a_8, ha_8, hf⟩ := bd_e hf
  refine Ct.callV (As := []) (rest := []) (st1 := [.int a_8]) (c_X5_canRiseOnes l D cI A h_7 a_8 ha_8) hx hb hml hown hts (cwV 0 hts gX5_riseDealing_X5_canRiseOnes rfl rfl rfl hd_X5_canRiseOnes ⟨Nat.le_of_ble_eq_true rfl, Nat.le_of_ble_eq_true rfl⟩) (va_recv hK hP (ci := 5) (q0 := 0) rfl cM_at0) (Ln.id rfl) hA hK hP hD hS rfl hl.1 rfl rfl (Nat.le_of_ble_eq_true rfl) dX5_riseDealing_27 (fun H locs hP hD hS => ?_)
  refine lv_istore (lv' := [(4, .int a_8), (3, .int v_2), (0, .ref (A 0)), (1, .int p1), (2, .int p2)]) hx hb dX5_riseDealing_30 hl (by decide) rfl (fun ls hl => ?_)
  refine lv_aload_n hx hb dX5_riseDealing_32 rfl (lv_at hl 2 rfl) ?_
  refine va_get (D := D) (ci := 5) (v := .ref (A 8)) (C := RX5) (T := TX5) (N := 27) hx hb hts hw5 hown hK hP 0 cM_at0 rfl 7 (by decide) k31 (fun _ h9 => h9) rfl dX5_riseDealing_33 ?_
  refine lv_iload_n hx hb dX5_riseDealing_36 rfl (lv_at hl 4 rfl) ?_
  refine lv_aload_n hx hb dX5_riseDealing_37 rfl (lv_at hl 2 rfl) ?_
  refine va_get (D := D) (ci := 5) (v := .ref (A 8)) (C := RX5) (T := TX5) (N := 27) hx hb hts hw5 hown hK hP 0 cM_at0 rfl 7 (by decide) k31 (fun _ h9 => h9) rfl dX5_riseDealing_38 ?_
  refine lv_iload_n hx hb dX5_riseDealing_41 rfl (lv_at hl 3 rfl) ?_
  obtain ⟨c_9, hf⟩ := gi_e hf
  refine va_iald hx hb hK hP 8 0 cM_at8 rfl c_9 dX5_riseDealing_42 ?_
  obtain ⟨c_10, hf⟩ := gi_e hf
  refine va_iast hx hb hK hP hD hS 8 0 cM_at8 rfl c_10 dX5_riseDealing_43 (fun H locs hP hD hS => ?_)
  obtain ⟨h_11, eh_11, hf⟩ := nm_e hf
  rw [cM_su8, ← eh_11] at hP hD
  refine lv_aload_n hx hb dX5_riseDealing_44 rfl (lv_at hl 2 rfl) ?_
  refine va_get (D := D) (ci := 5) (v := .ref (A 8)) (C := RX5) (T := TX5) (N := 27) hx hb hts hw5 hown hK hP 0 cM_at0 rfl 7 (by decide) k31 (fun _ h9 => h9) rfl dX5_riseDealing_45 ?_
  refine lv_iload_n hx hb dX5_riseDealing_48 rfl (lv_at hl 3 rfl) ?_
  refine lv_iload_n hx hb dX5_riseDealing_49 rfl (lv_at hl 1 rfl) ?_
  obtain ⟨c_12, hf⟩ := gi_e hf
  refine va_iast hx hb hK hP hD hS 8 0 cM_at8 rfl c_12 dX5_riseDealing_50 (fun H locs hP hD hS => ?_)
  obtain ⟨h_13, eh_13, hf⟩ := nm_e hf
  rw [cM_su8, ← eh_13] at hP hD
  refine lv_iload hx hb dX5_riseDealing_51 (lv_at hl 0 rfl) ?_
  exact hend (a_8, h_13) H locs _ _ hf hP hS dX5_riseDealing_53

def f_X5_deal (M : St) : Option (Int32 × St) := (bd (f_X5_canRiseOnes M) fun a_1 => (lp (fun (nx10 : (Int32 × Int32 × Int32 × St) → Option (Int32 × St)) (q10 : Int32 × Int32 × Int32 × St) => (if (q10.2.2.2 16 1) ≤ q10.2.2.1 then (some (q10.1, q10.2.2.2)) else (nm (q10.2.2.1 + (1 : Int32)) fun v_3 => (lp (fun (nx23 : (Int32 × Int32 × Int32 × St) → Option (Int32 × St)) (q23 : Int32 × Int32 × Int32 × St) => (if (q23.2.2.2 16 1) ≤ q23.2.2.1 then (nm (q10.2.2.1 + (1 : Int32)) fun v_5 => (nx10 (q23.1, q23.2.1, v_5, q23.2.2.2))) else (gi q10.2.2.1 8 (gi q23.2.2.1 8 (if (q23.2.2.2 7 (q10.2.2.1).toNatClampNeg) = (q23.2.2.2 7 (q23.2.2.1).toNatClampNeg) then (if q23.2.1 < (-9 : Int32) then (nm (((10 : Int32) * q10.2.2.1) + q23.2.2.1) fun v_15 => (nm (q23.2.2.1 + (1 : Int32)) fun v_16 => (nx23 (v_15, (-9 : Int32), v_16, q23.2.2.2)))) else (nm (q23.2.2.1 + (1 : Int32)) fun v_17 => (nx23 (q23.1, q23.2.1, v_17, q23.2.2.2)))) else (bd (f_X5_riseDealing q23.2.2.2 q10.2.2.1 q23.2.2.1) fun a_9 => (if q23.2.1 < a_9.1 then (nm (((10 : Int32) * q10.2.2.1) + q23.2.2.1) fun v_11 => (nm (q23.2.2.1 + (1 : Int32)) fun v_12 => (nx23 (v_11, a_9.1, v_12, a_9.2)))) else (nm (q23.2.2.1 + (1 : Int32)) fun v_13 => (nx23 (q23.1, q23.2.1, v_13, a_9.2)))))))))) 1000 (q10.1, q10.2.1, v_3, q10.2.2.2))))) 1000 ((-9 : Int32), a_1, (0 : Int32), M)))
def rm_X5_deal : Room := { frames := 6, cells := 0, slots := 0, locals := 136 }
theorem hd_X5_deal : yX5_deal.cls = RX5 ∧ yX5_deal.cls ≠ "java/lang/invoke/MethodHandle" ∧ yX5_deal.cls ≠ "java/lang/invoke/VarHandle" ∧ (parseMethodDescriptor yX5_deal.desc).map (fun d => d.parameters.length) = some 0 := by decide +kernel
set_option maxRecDepth 100000 in
set_option maxHeartbeats 4000000 in
theorem c_X5_deal (l : Launch) (D : va_G) (cI : ClassId) (A : Nat → Nat) (M : St) (r : Int32 × St) (hf : f_X5_deal M = some r) : Ct l yX5_deal wsX5_deal rm_X5_deal D cI (cM cI A M) (cM cI A r.2) [.ref (A 0)] (some (.int r.1)) := by
  unfold f_X5_deal at hf
  refine Ct.ofI (cc := cX5_deal) (maxL := 6) (by decide +kernel) rfl (Nat.le_of_ble_eq_true rfl) ?_
  intro p e s m args below meth c AA Q H locs ls hx hb hml hown hts hA hK hP hD hS hl hend0
  have hend : ∀ (r1 : Int32 × St) (H : Heap) (locs : List Loc) (pc : Nat) (ls : Array Slot), some r1 = some r → va_P D vwCl (cM cI A r1.2) H → va_S AA s.heap H locs → decode cX5_deal pc = .ok (.ireturn, 1) → W p l e rm_X5_deal s m args below meth c H locs 0 0 Q (F0 m pc ls [.int r1.1]) := by
    intro r1 H locs pc ls e1 hP hS hd; cases e1; exact hend0 H locs pc ls hP hS hd
  clear hend0
  have hw5 : ∀ w ∈ wsX50, w ∈ wsX5_deal := by decide +kernel
  have k31 := hts (.fieldLink RX5 31 "AnchorsForConfessionModel" "aboard" "[I") (by decide +kernel)
  have k65 := hts (.fieldLink RX5 65 "AnchorsForConfessionModel" "men" "I") (by decide +kernel)
  replace hl : lv_has ls 6 [(0, .ref (A 0))] := hl
  refine lv_bipush (v := -9) hx hb dX5_deal_0 (by decide +kernel) ?_
  refine lv_istore_n (lv' := [(1, .int (-9 : Int32)), (0, .ref (A 0))]) hx hb dX5_deal_2 rfl hl (by decide) rfl (fun ls hl => ?_)
  refine lv_aload_n hx hb dX5_deal_3 rfl (lv_at hl 1 rfl) ?_
  obtain ⟨a_1, ha_1, hf⟩ := bd_e hf
  refine Ct.callV (As := []) (rest := []) (st1 := [.int a_1]) (c_X5_canRiseOnes l D cI A M a_1 ha_1) hx hb hml hown hts (cwV 0 hts gX5_deal_X5_canRiseOnes rfl rfl rfl hd_X5_canRiseOnes ⟨Nat.le_of_ble_eq_true rfl, Nat.le_of_ble_eq_true rfl⟩) (va_recv hK hP (ci := 5) (q0 := 0) rfl cM_at0) (Ln.id rfl) hA hK hP hD hS rfl hl.1 rfl rfl (Nat.le_of_ble_eq_true rfl) dX5_deal_4 (fun H locs hP hD hS => ?_)
  refine lv_istore_n (lv' := [(2, .int a_1), (1, .int (-9 : Int32)), (0, .ref (A 0))]) hx hb dX5_deal_7 rfl hl (by decide) rfl (fun ls hl => ?_)
  refine lv_iconst (v := 0) hx hb dX5_deal_8 (by decide) ?_
  refine lv_istore_n (lv' := [(3, .int (0 : Int32)), (2, .int a_1), (1, .int (-9 : Int32)), (0, .ref (A 0))]) hx hb dX5_deal_9 rfl hl (by decide) rfl (fun ls hl => ?_)
  refine lp_ind (P := fun (q10 : Int32 × Int32 × Int32 × St) => ∀ (H : Heap) (locs : List Loc) (ls : Array Slot), va_P D vwCl (cM cI A q10.2.2.2) H → va_D AA (cM cI A q10.2.2.2) → va_S AA s.heap H locs → lv_has ls 6 [(0, .ref (A 0)), (1, .int q10.1), (2, .int q10.2.1), (3, .int q10.2.2.1)] → W p l e rm_X5_deal s m args below meth c H locs 0 0 Q (F0 m 10 ls [])) hf ?_ H locs ls hP hD hS (lv_sub hl [3, 2, 1, 0] rfl)
  clear hf hP hD hS hl
  intro nx10 ih10 q10 hf H locs ls hP hD hS hl
  refine lv_iload_n hx hb dX5_deal_10 rfl (lv_at hl 3 rfl) ?_
  refine lv_aload_n hx hb dX5_deal_11 rfl (lv_at hl 0 rfl) ?_
  refine va_get (D := D) (ci := 5) (v := .int (q10.2.2.2 16 1)) (C := RX5) (T := TX5) (N := 27) hx hb hts hw5 hown hK hP 0 cM_at0 rfl 9 (by decide) k65 (fun _ h9 => h9) rfl dX5_deal_12 ?_
  refine lv_icmp_ge (tgt := 94) hx hb dX5_deal_15 (by decide) (fun c_2 => ?_) (fun c_2 => ?_)
  · replace hf := if_t c_2 hf
    refine lv_iload_n hx hb dX5_deal_94 rfl (lv_at hl 1 rfl) ?_
    exact hend (q10.1, q10.2.2.2) H locs _ _ hf hP hS dX5_deal_95
  · replace hf := if_f c_2 hf
    refine lv_iload_n hx hb dX5_deal_18 rfl (lv_at hl 3 rfl) ?_
    refine lv_iconst (v := 1) hx hb dX5_deal_19 (by decide) ?_
    refine lv_iadd hx hb dX5_deal_20 ?_
    refine lv_topi (fun v_3 ev_3 => ?_)
    replace hf := nm_at ev_3 hf
    refine lv_istore (lv' := [(4, .int v_3), (0, .ref (A 0)), (1, .int q10.1), (2, .int q10.2.1), (3, .int q10.2.2.1)]) hx hb dX5_deal_21 hl (by decide) rfl (fun ls hl => ?_)
    refine lp_ind (P := fun (q23 : Int32 × Int32 × Int32 × St) => ∀ (H : Heap) (locs : List Loc) (ls : Array Slot), va_P D vwCl (cM cI A q23.2.2.2) H → va_D AA (cM cI A q23.2.2.2) → va_S AA s.heap H locs → lv_has ls 6 [(0, .ref (A 0)), (1, .int q23.1), (2, .int q23.2.1), (3, .int q10.2.2.1), (4, .int q23.2.2.1)] → W p l e rm_X5_deal s m args below meth c H locs 0 0 Q (F0 m 23 ls [])) hf ?_ H locs ls hP hD hS (lv_sub hl [1, 2, 3, 4, 0] rfl)
    clear hf hP hD hS hl
    intro nx23 ih23 q23 hf H locs ls hP hD hS hl
    refine lv_iload hx hb dX5_deal_23 (lv_at hl 4 rfl) ?_
    refine lv_aload_n hx hb dX5_deal_25 rfl (lv_at hl 0 rfl) ?_
    refine va_get (D := D) (ci := 5) (v := .int (q23.2.2.2 16 1)) (C := RX5) (T := TX5) (N := 27) hx hb hts hw5 hown hK hP 0 cM_at0 rfl 9 (by decide) k65 (fun _ h9 => h9) rfl dX5_deal_26 ?_
    refine lv_icmp_ge (tgt := 88) hx hb dX5_deal_29 (by decide) (fun c_4 => ?_) (fun c_4 => ?_)
    · replace hf := if_t c_4 hf
      obtain ⟨v_5, ev_5, hf⟩ := nm_e hf
      refine lv_iinc (v := v_5) (lv' := [(3, .int v_5), (0, .ref (A 0)), (1, .int q23.1), (2, .int q23.2.1), (4, .int q23.2.2.1)]) hx hb dX5_deal_88 hl (k := 3) rfl (by rw [ev_5]; rfl) (by decide) rfl (fun ls hl => ?_)
      refine lv_goto (tgt := 10) hx hb dX5_deal_91 (by decide) ?_
      exact ih10 (q23.1, q23.2.1, v_5, q23.2.2.2) hf H locs ls hP hD hS (lv_sub hl [1, 2, 3, 0] rfl)
    · replace hf := if_f c_4 hf
      refine lv_aload_n hx hb dX5_deal_32 rfl (lv_at hl 0 rfl) ?_
      refine va_get (D := D) (ci := 5) (v := .ref (A 8)) (C := RX5) (T := TX5) (N := 27) hx hb hts hw5 hown hK hP 0 cM_at0 rfl 7 (by decide) k31 (fun _ h9 => h9) rfl dX5_deal_33 ?_
      refine lv_iload_n hx hb dX5_deal_36 rfl (lv_at hl 3 rfl) ?_
      obtain ⟨c_6, hf⟩ := gi_e hf
      refine va_iald hx hb hK hP 8 0 cM_at8 rfl c_6 dX5_deal_37 ?_
      refine lv_aload_n hx hb dX5_deal_38 rfl (lv_at hl 0 rfl) ?_
      refine va_get (D := D) (ci := 5) (v := .ref (A 8)) (C := RX5) (T := TX5) (N := 27) hx hb hts hw5 hown hK hP 0 cM_at0 rfl 7 (by decide) k31 (fun _ h9 => h9) rfl dX5_deal_39 ?_
      refine lv_iload hx hb dX5_deal_42 (lv_at hl 4 rfl) ?_
      obtain ⟨c_7, hf⟩ := gi_e hf
      refine va_iald hx hb hK hP 8 0 cM_at8 rfl c_7 dX5_deal_44 ?_
      refine lv_icmp_ne (tgt := 53) hx hb dX5_deal_45 (by decide) (fun c_8 => ?_) (fun c_8 => ?_)
      · replace hf := if_f c_8 hf
        refine lv_aload_n hx hb dX5_deal_53 rfl (lv_at hl 0 rfl) ?_
        refine lv_iload_n hx hb dX5_deal_54 rfl (lv_at hl 3 rfl) ?_
        refine lv_iload hx hb dX5_deal_55 (lv_at hl 4 rfl) ?_
        obtain ⟨a_9, ha_9, hf⟩ := bd_e hf
        refine Ct.callV (As := [.int q10.2.2.1, .int q23.2.2.1]) (rest := []) (st1 := [.int a_9.1]) (c_X5_riseDealing l D cI A q23.2.2.2 q10.2.2.1 q23.2.2.1 a_9 ha_9) hx hb hml hown hts (cwV 2 hts gX5_deal_X5_riseDealing rfl rfl rfl hd_X5_riseDealing ⟨Nat.le_of_ble_eq_true rfl, Nat.le_of_ble_eq_true rfl⟩) (va_recv hK hP (ci := 5) (q0 := 0) rfl cM_at0) (Ln.id rfl) hA hK hP hD hS rfl hl.1 rfl rfl (Nat.le_of_ble_eq_true rfl) dX5_deal_57 (fun H locs hP hD hS => ?_)
        replace hP : va_P D vwCl (cM cI A a_9.2) H := hP
        replace hD : va_D AA (cM cI A a_9.2) := hD
        refine lv_istore (lv' := [(5, .int a_9.1), (0, .ref (A 0)), (1, .int q23.1), (2, .int q23.2.1), (3, .int q10.2.2.1), (4, .int q23.2.2.1)]) hx hb dX5_deal_60 hl (by decide) rfl (fun ls hl => ?_)
        refine lv_iload hx hb dX5_deal_62 (lv_at hl 0 rfl) ?_
        refine lv_iload_n hx hb dX5_deal_64 rfl (lv_at hl 3 rfl) ?_
        refine lv_icmp_gt (tgt := 71) hx hb dX5_deal_65 (by decide) (fun c_10 => ?_) (fun c_10 => ?_)
        · replace hf := if_t c_10 hf
          refine lv_bipush (v := 10) hx hb dX5_deal_71 (by decide +kernel) ?_
          refine lv_iload_n hx hb dX5_deal_73 rfl (lv_at hl 4 rfl) ?_
          refine lv_imul hx hb dX5_deal_74 ?_
          refine lv_iload hx hb dX5_deal_75 (lv_at hl 5 rfl) ?_
          refine lv_iadd hx hb dX5_deal_77 ?_
          refine lv_topi (fun v_11 ev_11 => ?_)
          replace hf := nm_at ev_11 hf
          refine lv_istore_n (lv' := [(1, .int v_11), (5, .int a_9.1), (0, .ref (A 0)), (2, .int q23.2.1), (3, .int q10.2.2.1), (4, .int q23.2.2.1)]) hx hb dX5_deal_78 rfl hl (by decide) rfl (fun ls hl => ?_)
          refine lv_iload hx hb dX5_deal_79 (lv_at hl 1 rfl) ?_
          refine lv_istore_n (lv' := [(2, .int a_9.1), (1, .int v_11), (5, .int a_9.1), (0, .ref (A 0)), (3, .int q10.2.2.1), (4, .int q23.2.2.1)]) hx hb dX5_deal_81 rfl hl (by decide) rfl (fun ls hl => ?_)
          obtain ⟨v_12, ev_12, hf⟩ := nm_e hf
          refine lv_iinc (v := v_12) (lv' := [(4, .int v_12), (2, .int a_9.1), (1, .int v_11), (5, .int a_9.1), (0, .ref (A 0)), (3, .int q10.2.2.1)]) hx hb dX5_deal_82 hl (k := 5) rfl (by rw [ev_12]; rfl) (by decide) rfl (fun ls hl => ?_)
          refine lv_goto (tgt := 23) hx hb dX5_deal_85 (by decide) ?_
          exact ih23 (v_11, a_9.1, v_12, a_9.2) hf H locs ls hP hD hS (lv_sub hl [4, 2, 1, 5, 0] rfl)
        · replace hf := if_f c_10 hf
          refine lv_goto (tgt := 82) hx hb dX5_deal_68 (by decide) ?_
          obtain ⟨v_13, ev_13, hf⟩ := nm_e hf
          refine lv_iinc (v := v_13) (lv' := [(4, .int v_13), (5, .int a_9.1), (0, .ref (A 0)), (1, .int q23.1), (2, .int q23.2.1), (3, .int q10.2.2.1)]) hx hb dX5_deal_82 hl (k := 5) rfl (by rw [ev_13]; rfl) (by decide) rfl (fun ls hl => ?_)
          refine lv_goto (tgt := 23) hx hb dX5_deal_85 (by decide) ?_
          exact ih23 (q23.1, q23.2.1, v_13, a_9.2) hf H locs ls hP hD hS (lv_sub hl [2, 3, 4, 5, 0] rfl)
      · replace hf := if_t c_8 hf
        refine lv_bipush (v := -9) hx hb dX5_deal_48 (by decide +kernel) ?_
        refine lv_goto (tgt := 60) hx hb dX5_deal_50 (by decide) ?_
        refine lv_istore (lv' := [(5, .int (-9 : Int32)), (0, .ref (A 0)), (1, .int q23.1), (2, .int q23.2.1), (3, .int q10.2.2.1), (4, .int q23.2.2.1)]) hx hb dX5_deal_60 hl (by decide) rfl (fun ls hl => ?_)
        refine lv_iload hx hb dX5_deal_62 (lv_at hl 0 rfl) ?_
        refine lv_iload_n hx hb dX5_deal_64 rfl (lv_at hl 3 rfl) ?_
        refine lv_icmp_gt (tgt := 71) hx hb dX5_deal_65 (by decide) (fun c_14 => ?_) (fun c_14 => ?_)
        · replace hf := if_t c_14 hf
          refine lv_bipush (v := 10) hx hb dX5_deal_71 (by decide +kernel) ?_
          refine lv_iload_n hx hb dX5_deal_73 rfl (lv_at hl 4 rfl) ?_
          refine lv_imul hx hb dX5_deal_74 ?_
          refine lv_iload hx hb dX5_deal_75 (lv_at hl 5 rfl) ?_
          refine lv_iadd hx hb dX5_deal_77 ?_
          refine lv_topi (fun v_15 ev_15 => ?_)
          replace hf := nm_at ev_15 hf
          refine lv_istore_n (lv' := [(1, .int v_15), (5, .int (-9 : Int32)), (0, .ref (A 0)), (2, .int q23.2.1), (3, .int q10.2.2.1), (4, .int q23.2.2.1)]) hx hb dX5_deal_78 rfl hl (by decide) rfl (fun ls hl => ?_)
          refine lv_iload hx hb dX5_deal_79 (lv_at hl 1 rfl) ?_
          refine lv_istore_n (lv' := [(2, .int (-9 : Int32)), (1, .int v_15), (5, .int (-9 : Int32)), (0, .ref (A 0)), (3, .int q10.2.2.1), (4, .int q23.2.2.1)]) hx hb dX5_deal_81 rfl hl (by decide) rfl (fun ls hl => ?_)
          obtain ⟨v_16, ev_16, hf⟩ := nm_e hf
          refine lv_iinc (v := v_16) (lv' := [(4, .int v_16), (2, .int (-9 : Int32)), (1, .int v_15), (5, .int (-9 : Int32)), (0, .ref (A 0)), (3, .int q10.2.2.1)]) hx hb dX5_deal_82 hl (k := 5) rfl (by rw [ev_16]; rfl) (by decide) rfl (fun ls hl => ?_)
          refine lv_goto (tgt := 23) hx hb dX5_deal_85 (by decide) ?_
          exact ih23 (v_15, (-9 : Int32), v_16, q23.2.2.2) hf H locs ls hP hD hS (lv_sub hl [4, 2, 1, 5, 0] rfl)
        · replace hf := if_f c_14 hf
          refine lv_goto (tgt := 82) hx hb dX5_deal_68 (by decide) ?_
          obtain ⟨v_17, ev_17, hf⟩ := nm_e hf
          refine lv_iinc (v := v_17) (lv' := [(4, .int v_17), (5, .int (-9 : Int32)), (0, .ref (A 0)), (1, .int q23.1), (2, .int q23.2.1), (3, .int q10.2.2.1)]) hx hb dX5_deal_82 hl (k := 5) rfl (by rw [ev_17]; rfl) (by decide) rfl (fun ls hl => ?_)
          refine lv_goto (tgt := 23) hx hb dX5_deal_85 (by decide) ?_
          exact ih23 (q23.1, q23.2.1, v_17, q23.2.2.2) hf H locs ls hP hD hS (lv_sub hl [2, 3, 4, 5, 0] rfl)

def f_X5_hush (M : St) : Option (Int32) := (lp (fun (nx4 : (Int32 × Int32) → Option (Int32)) (q4 : Int32 × Int32) => (if (M 16 1) ≤ q4.2 then (some q4.1) else (gi q4.2 8 (nm (M 7 (q4.2).toNatClampNeg) fun v_3 => (bd (f_X5_canRise M v_3) fun a_4 => (if a_4 = 0 then (nm (q4.1 ||| (0 : Int32)) fun v_6 => (nm (q4.2 + (1 : Int32)) fun v_7 => (nx4 (v_6, v_7)))) else (bd (f_X5_pool M v_3) fun a_8 => (gi q4.2 8 (bd (f_X5_worth M q4.2) fun a_10 => (bd (f_X5_lacks M v_3) fun a_11 => (if a_11 ≤ (a_8 - ((M 6 (q4.2).toNatClampNeg) * a_10)) then (nm (q4.1 ||| (0 : Int32)) fun v_13 => (nm (q4.2 + (1 : Int32)) fun v_14 => (nx4 (v_13, v_14)))) else (nm (q4.1 ||| ((1 : Int32) <<< (q4.2 &&& 31))) fun v_15 => (nm (q4.2 + (1 : Int32)) fun v_16 => (nx4 (v_15, v_16))))))))))))))) 1000 ((0 : Int32), (0 : Int32)))
def rm_X5_hush : Room := { frames := 4, cells := 0, slots := 0, locals := 90 }
theorem hd_X5_hush : yX5_hush.cls = RX5 ∧ yX5_hush.cls ≠ "java/lang/invoke/MethodHandle" ∧ yX5_hush.cls ≠ "java/lang/invoke/VarHandle" ∧ (parseMethodDescriptor yX5_hush.desc).map (fun d => d.parameters.length) = some 0 := by decide +kernel
set_option maxRecDepth 100000 in
set_option maxHeartbeats 4000000 in
theorem c_X5_hush (l : Launch) (D : va_G) (cI : ClassId) (A : Nat → Nat) (M : St) (r : Int32) (hf : f_X5_hush M = some r) : Ct l yX5_hush wsX5_hush rm_X5_hush D cI (cM cI A M) (cM cI A M) [.ref (A 0)] (some (.int r)) := by
  unfold f_X5_hush at hf
  refine Ct.ofI (cc := cX5_hush) (maxL := 4) (by decide +kernel) rfl (Nat.le_of_ble_eq_true rfl) ?_
  intro p e s m args below meth c AA Q H locs ls hx hb hml hown hts hA hK hP hD hS hl hend0
  have hend : ∀ (r1 : Int32) (H : Heap) (locs : List Loc) (pc : Nat) (ls : Array Slot), some r1 = some r → va_P D vwCl (cM cI A M) H → va_S AA s.heap H locs → decode cX5_hush pc = .ok (.ireturn, 1) → W p l e rm_X5_hush s m args below meth c H locs 0 0 Q (F0 m pc ls [.int r1]) := by
    intro r1 H locs pc ls e1 hP hS hd; cases e1; exact hend0 H locs pc ls hP hS hd
  clear hend0
  have hw5 : ∀ w ∈ wsX50, w ∈ wsX5_hush := by decide +kernel
  have k28 := hts (.fieldLink RX5 28 "AnchorsForConfessionModel" "sins" "[I") (by decide +kernel)
  have k31 := hts (.fieldLink RX5 31 "AnchorsForConfessionModel" "aboard" "[I") (by decide +kernel)
  have k65 := hts (.fieldLink RX5 65 "AnchorsForConfessionModel" "men" "I") (by decide +kernel)
  replace hl : lv_has ls 4 [(0, .ref (A 0))] := hl
  refine lv_iconst (v := 0) hx hb dX5_hush_0 (by decide) ?_
  refine lv_istore_n (lv' := [(1, .int (0 : Int32)), (0, .ref (A 0))]) hx hb dX5_hush_1 rfl hl (by decide) rfl (fun ls hl => ?_)
  refine lv_iconst (v := 0) hx hb dX5_hush_2 (by decide) ?_
  refine lv_istore_n (lv' := [(2, .int (0 : Int32)), (1, .int (0 : Int32)), (0, .ref (A 0))]) hx hb dX5_hush_3 rfl hl (by decide) rfl (fun ls hl => ?_)
  refine lp_ind (P := fun (q4 : Int32 × Int32) => ∀ (H : Heap) (locs : List Loc) (ls : Array Slot), va_P D vwCl (cM cI A M) H → va_D AA (cM cI A M) → va_S AA s.heap H locs → lv_has ls 4 [(0, .ref (A 0)), (1, .int q4.1), (2, .int q4.2)] → W p l e rm_X5_hush s m args below meth c H locs 0 0 Q (F0 m 4 ls [])) hf ?_ H locs ls hP hD hS (lv_sub hl [2, 1, 0] rfl)
  clear hf hP hD hS hl
  intro nx4 ih4 q4 hf H locs ls hP hD hS hl
  refine lv_iload_n hx hb dX5_hush_4 rfl (lv_at hl 2 rfl) ?_
  refine lv_aload_n hx hb dX5_hush_5 rfl (lv_at hl 0 rfl) ?_
  refine va_get (D := D) (ci := 5) (v := .int (M 16 1)) (C := RX5) (T := TX5) (N := 27) hx hb hts hw5 hown hK hP 0 cM_at0 rfl 9 (by decide) k65 (fun _ h9 => h9) rfl dX5_hush_6 ?_
  refine lv_icmp_ge (tgt := 69) hx hb dX5_hush_9 (by decide) (fun c_1 => ?_) (fun c_1 => ?_)
  · replace hf := if_t c_1 hf
    refine lv_iload_n hx hb dX5_hush_69 rfl (lv_at hl 1 rfl) ?_
    exact hend q4.1 H locs _ _ hf hP hS dX5_hush_70
  · replace hf := if_f c_1 hf
    refine lv_aload_n hx hb dX5_hush_12 rfl (lv_at hl 0 rfl) ?_
    refine va_get (D := D) (ci := 5) (v := .ref (A 8)) (C := RX5) (T := TX5) (N := 27) hx hb hts hw5 hown hK hP 0 cM_at0 rfl 7 (by decide) k31 (fun _ h9 => h9) rfl dX5_hush_13 ?_
    refine lv_iload_n hx hb dX5_hush_16 rfl (lv_at hl 2 rfl) ?_
    obtain ⟨c_2, hf⟩ := gi_e hf
    refine va_iald hx hb hK hP 8 0 cM_at8 rfl c_2 dX5_hush_17 ?_
    refine lv_topi (fun v_3 ev_3 => ?_)
    replace hf := nm_at ev_3 hf
    refine lv_istore_n (lv' := [(3, .int v_3), (0, .ref (A 0)), (1, .int q4.1), (2, .int q4.2)]) hx hb dX5_hush_18 rfl hl (by decide) rfl (fun ls hl => ?_)
    refine lv_iload_n hx hb dX5_hush_19 rfl (lv_at hl 2 rfl) ?_
    refine lv_aload_n hx hb dX5_hush_20 rfl (lv_at hl 1 rfl) ?_
    refine lv_iload_n hx hb dX5_hush_21 rfl (lv_at hl 0 rfl) ?_
    obtain ⟨a_4, ha_4, hf⟩ := bd_e hf
    refine Ct.callV (As := [.int v_3]) (rest := [.int q4.1]) (st1 := [.int a_4, .int q4.1]) (c_X5_canRise l D cI A M v_3 a_4 ha_4) hx hb hml hown hts (cwV 1 hts gX5_hush_X5_canRise rfl rfl rfl hd_X5_canRise ⟨Nat.le_of_ble_eq_true rfl, Nat.le_of_ble_eq_true rfl⟩) (va_recv hK hP (ci := 5) (q0 := 0) rfl cM_at0) (Ln.id rfl) hA hK hP hD hS rfl hl.1 rfl rfl (Nat.le_of_ble_eq_true rfl) dX5_hush_22 (fun H locs hP hD hS => ?_)
    refine lv_if_eq (tgt := 60) hx hb dX5_hush_25 (by decide) (fun c_5 => ?_) (fun c_5 => ?_)
    · replace hf := if_t c_5 hf
      refine lv_iconst (v := 0) hx hb dX5_hush_60 (by decide) ?_
      refine lv_ior hx hb dX5_hush_61 ?_
      refine lv_topi (fun v_6 ev_6 => ?_)
      replace hf := nm_at ev_6 hf
      refine lv_istore_n (lv' := [(1, .int v_6), (3, .int v_3), (0, .ref (A 0)), (2, .int q4.2)]) hx hb dX5_hush_62 rfl hl (by decide) rfl (fun ls hl => ?_)
      obtain ⟨v_7, ev_7, hf⟩ := nm_e hf
      refine lv_iinc (v := v_7) (lv' := [(2, .int v_7), (1, .int v_6), (3, .int v_3), (0, .ref (A 0))]) hx hb dX5_hush_63 hl (k := 3) rfl (by rw [ev_7]; rfl) (by decide) rfl (fun ls hl => ?_)
      refine lv_goto (tgt := 4) hx hb dX5_hush_66 (by decide) ?_
      exact ih4 (v_6, v_7) hf H locs ls hP hD hS (lv_sub hl [3, 1, 0] rfl)
    · replace hf := if_f c_5 hf
      refine lv_aload_n hx hb dX5_hush_28 rfl (lv_at hl 1 rfl) ?_
      refine lv_iload_n hx hb dX5_hush_29 rfl (lv_at hl 0 rfl) ?_
      obtain ⟨a_8, ha_8, hf⟩ := bd_e hf
      refine Ct.callV (As := [.int v_3]) (rest := [.int q4.1]) (st1 := [.int a_8, .int q4.1]) (c_X5_pool l D cI A M v_3 a_8 ha_8) hx hb hml hown hts (cwV 1 hts gX5_hush_X5_pool rfl rfl rfl hd_X5_pool ⟨Nat.le_of_ble_eq_true rfl, Nat.le_of_ble_eq_true rfl⟩) (va_recv hK hP (ci := 5) (q0 := 0) rfl cM_at0) (Ln.id rfl) hA hK hP hD hS rfl hl.1 rfl rfl (Nat.le_of_ble_eq_true rfl) dX5_hush_30 (fun H locs hP hD hS => ?_)
      refine lv_aload_n hx hb dX5_hush_33 rfl (lv_at hl 1 rfl) ?_
      refine va_get (D := D) (ci := 5) (v := .ref (A 7)) (C := RX5) (T := TX5) (N := 27) hx hb hts hw5 hown hK hP 0 cM_at0 rfl 6 (by decide) k28 (fun _ h9 => h9) rfl dX5_hush_34 ?_
      refine lv_iload_n hx hb dX5_hush_37 rfl (lv_at hl 3 rfl) ?_
      obtain ⟨c_9, hf⟩ := gi_e hf
      refine va_iald hx hb hK hP 7 0 cM_at7 rfl c_9 dX5_hush_38 ?_
      refine lv_aload_n hx hb dX5_hush_39 rfl (lv_at hl 1 rfl) ?_
      refine lv_iload_n hx hb dX5_hush_40 rfl (lv_at hl 3 rfl) ?_
      obtain ⟨a_10, ha_10, hf⟩ := bd_e hf
      refine Ct.callV (As := [.int q4.2]) (rest := [.int (M 6 (q4.2).toNatClampNeg), .int a_8, .int q4.1]) (st1 := [.int a_10, .int (M 6 (q4.2).toNatClampNeg), .int a_8, .int q4.1]) (c_X5_worth l D cI A M q4.2 a_10 ha_10) hx hb hml hown hts (cwV 1 hts gX5_hush_X5_worth rfl rfl rfl hd_X5_worth ⟨Nat.le_of_ble_eq_true rfl, Nat.le_of_ble_eq_true rfl⟩) (va_recv hK hP (ci := 5) (q0 := 0) rfl cM_at0) (Ln.id rfl) hA hK hP hD hS rfl hl.1 rfl rfl (Nat.le_of_ble_eq_true rfl) dX5_hush_41 (fun H locs hP hD hS => ?_)
      refine lv_imul hx hb dX5_hush_44 ?_
      refine lv_isub hx hb dX5_hush_45 ?_
      refine lv_aload_n hx hb dX5_hush_46 rfl (lv_at hl 1 rfl) ?_
      refine lv_iload_n hx hb dX5_hush_47 rfl (lv_at hl 0 rfl) ?_
      obtain ⟨a_11, ha_11, hf⟩ := bd_e hf
      refine Ct.callV (As := [.int v_3]) (rest := [.int (a_8 - ((M 6 (q4.2).toNatClampNeg) * a_10)), .int q4.1]) (st1 := [.int a_11, .int (a_8 - ((M 6 (q4.2).toNatClampNeg) * a_10)), .int q4.1]) (c_X5_lacks l D cI A M v_3 a_11 ha_11) hx hb hml hown hts (cwV 1 hts gX5_hush_X5_lacks rfl rfl rfl hd_X5_lacks ⟨Nat.le_of_ble_eq_true rfl, Nat.le_of_ble_eq_true rfl⟩) (va_recv hK hP (ci := 5) (q0 := 0) rfl cM_at0) (Ln.id rfl) hA hK hP hD hS rfl hl.1 rfl rfl (Nat.le_of_ble_eq_true rfl) dX5_hush_48 (fun H locs hP hD hS => ?_)
      refine lv_icmp_ge (tgt := 60) hx hb dX5_hush_51 (by decide) (fun c_12 => ?_) (fun c_12 => ?_)
      · replace hf := if_t c_12 hf
        refine lv_iconst (v := 0) hx hb dX5_hush_60 (by decide) ?_
        refine lv_ior hx hb dX5_hush_61 ?_
        refine lv_topi (fun v_13 ev_13 => ?_)
        replace hf := nm_at ev_13 hf
        refine lv_istore_n (lv' := [(1, .int v_13), (3, .int v_3), (0, .ref (A 0)), (2, .int q4.2)]) hx hb dX5_hush_62 rfl hl (by decide) rfl (fun ls hl => ?_)
        obtain ⟨v_14, ev_14, hf⟩ := nm_e hf
        refine lv_iinc (v := v_14) (lv' := [(2, .int v_14), (1, .int v_13), (3, .int v_3), (0, .ref (A 0))]) hx hb dX5_hush_63 hl (k := 3) rfl (by rw [ev_14]; rfl) (by decide) rfl (fun ls hl => ?_)
        refine lv_goto (tgt := 4) hx hb dX5_hush_66 (by decide) ?_
        exact ih4 (v_13, v_14) hf H locs ls hP hD hS (lv_sub hl [3, 1, 0] rfl)
      · replace hf := if_f c_12 hf
        refine lv_iconst (v := 1) hx hb dX5_hush_54 (by decide) ?_
        refine lv_iload_n hx hb dX5_hush_55 rfl (lv_at hl 3 rfl) ?_
        refine lv_ishl hx hb dX5_hush_56 ?_
        refine lv_goto (tgt := 61) hx hb dX5_hush_57 (by decide) ?_
        refine lv_ior hx hb dX5_hush_61 ?_
        refine lv_topi (fun v_15 ev_15 => ?_)
        replace hf := nm_at ev_15 hf
        refine lv_istore_n (lv' := [(1, .int v_15), (3, .int v_3), (0, .ref (A 0)), (2, .int q4.2)]) hx hb dX5_hush_62 rfl hl (by decide) rfl (fun ls hl => ?_)
        obtain ⟨v_16, ev_16, hf⟩ := nm_e hf
        refine lv_iinc (v := v_16) (lv' := [(2, .int v_16), (1, .int v_15), (3, .int v_3), (0, .ref (A 0))]) hx hb dX5_hush_63 hl (k := 3) rfl (by rw [ev_16]; rfl) (by decide) rfl (fun ls hl => ?_)
        refine lv_goto (tgt := 4) hx hb dX5_hush_66 (by decide) ?_
        exact ih4 (v_15, v_16) hf H locs ls hP hD hS (lv_sub hl [3, 1, 0] rfl)

def f_X5_risesBy (M : St) (p1 : Int32) : Option (Int32 × St) := (bd (f_X5_thinks M) fun a_1 => (bd (f_X5_tellsOne a_1 p1) fun a_2 => (bd (f_X5_forgets a_2.2) fun a_3 => (some (a_2.1, a_3)))))
def rm_X5_risesBy : Room := { frames := 4, cells := 0, slots := 0, locals := 88 }
theorem hd_X5_risesBy : yX5_risesBy.cls = RX5 ∧ yX5_risesBy.cls ≠ "java/lang/invoke/MethodHandle" ∧ yX5_risesBy.cls ≠ "java/lang/invoke/VarHandle" ∧ (parseMethodDescriptor yX5_risesBy.desc).map (fun d => d.parameters.length) = some 1 := by decide +kernel
set_option maxRecDepth 100000 in
set_option maxHeartbeats 4000000 in
theorem c_X5_risesBy (l : Launch) (D : va_G) (cI : ClassId) (A : Nat → Nat) (M : St) (p1 : Int32) (r : Int32 × St) (hf : f_X5_risesBy M p1 = some r) : Ct l yX5_risesBy wsX5_risesBy rm_X5_risesBy D cI (cM cI A M) (cM cI A r.2) [.ref (A 0), .int p1] (some (.int r.1)) := by
  unfold f_X5_risesBy at hf
  refine Ct.ofI (cc := cX5_risesBy) (maxL := 3) (by decide +kernel) rfl (Nat.le_of_ble_eq_true rfl) ?_
  intro p e s m args below meth c AA Q H locs ls hx hb hml hown hts hA hK hP hD hS hl hend0
  have hend : ∀ (r1 : Int32 × St) (H : Heap) (locs : List Loc) (pc : Nat) (ls : Array Slot), some r1 = some r → va_P D vwCl (cM cI A r1.2) H → va_S AA s.heap H locs → decode cX5_risesBy pc = .ok (.ireturn, 1) → W p l e rm_X5_risesBy s m args below meth c H locs 0 0 Q (F0 m pc ls [.int r1.1]) := by
    intro r1 H locs pc ls e1 hP hS hd; cases e1; exact hend0 H locs pc ls hP hS hd
  clear hend0
  replace hl : lv_has ls 3 [(0, .ref (A 0)), (1, .int p1)] := hl
  refine lv_aload_n hx hb dX5_risesBy_0 rfl (lv_at hl 0 rfl) ?_
  obtain ⟨a_1, ha_1, hf⟩ := bd_e hf
  refine Ct.callV (As := []) (rest := []) (st1 := []) (c_X5_thinks l D cI A M a_1 ha_1) hx hb hml hown hts (cwV 0 hts gX5_risesBy_X5_thinks rfl rfl rfl hd_X5_thinks ⟨Nat.le_of_ble_eq_true rfl, Nat.le_of_ble_eq_true rfl⟩) (va_recv hK hP (ci := 5) (q0 := 0) rfl cM_at0) (Ln.id rfl) hA hK hP hD hS rfl hl.1 rfl rfl (Nat.le_of_ble_eq_true rfl) dX5_risesBy_1 (fun H locs hP hD hS => ?_)
  replace hP : va_P D vwCl (cM cI A a_1) H := hP
  replace hD : va_D AA (cM cI A a_1) := hD
  refine lv_aload_n hx hb dX5_risesBy_4 rfl (lv_at hl 0 rfl) ?_
  refine lv_iload_n hx hb dX5_risesBy_5 rfl (lv_at hl 1 rfl) ?_
  obtain ⟨a_2, ha_2, hf⟩ := bd_e hf
  refine Ct.callV (As := [.int p1]) (rest := []) (st1 := [.int a_2.1]) (c_X5_tellsOne l D cI A a_1 p1 a_2 ha_2) hx hb hml hown hts (cwV 1 hts gX5_risesBy_X5_tellsOne rfl rfl rfl hd_X5_tellsOne ⟨Nat.le_of_ble_eq_true rfl, Nat.le_of_ble_eq_true rfl⟩) (va_recv hK hP (ci := 5) (q0 := 0) rfl cM_at0) (Ln.id rfl) hA hK hP hD hS rfl hl.1 rfl rfl (Nat.le_of_ble_eq_true rfl) dX5_risesBy_6 (fun H locs hP hD hS => ?_)
  replace hP : va_P D vwCl (cM cI A a_2.2) H := hP
  replace hD : va_D AA (cM cI A a_2.2) := hD
  refine lv_istore_n (lv' := [(2, .int a_2.1), (0, .ref (A 0)), (1, .int p1)]) hx hb dX5_risesBy_9 rfl hl (by decide) rfl (fun ls hl => ?_)
  refine lv_aload_n hx hb dX5_risesBy_10 rfl (lv_at hl 1 rfl) ?_
  obtain ⟨a_3, ha_3, hf⟩ := bd_e hf
  refine Ct.callV (As := []) (rest := []) (st1 := []) (c_X5_forgets l D cI A a_2.2 a_3 ha_3) hx hb hml hown hts (cwV 0 hts gX5_risesBy_X5_forgets rfl rfl rfl hd_X5_forgets ⟨Nat.le_of_ble_eq_true rfl, Nat.le_of_ble_eq_true rfl⟩) (va_recv hK hP (ci := 5) (q0 := 0) rfl cM_at0) (Ln.id rfl) hA hK hP hD hS rfl hl.1 rfl rfl (Nat.le_of_ble_eq_true rfl) dX5_risesBy_11 (fun H locs hP hD hS => ?_)
  replace hP : va_P D vwCl (cM cI A a_3) H := hP
  replace hD : va_D AA (cM cI A a_3) := hD
  refine lv_iload_n hx hb dX5_risesBy_14 rfl (lv_at hl 0 rfl) ?_
  exact hend (a_2.1, a_3) H locs _ _ hf hP hS dX5_risesBy_15

def f_X5_loudest (M : St) (p1 : Int32) : Option (Int32 × St) := (bd (f_X5_isIn p1 (0 : Int32) (1 : Int32)) fun a_1 => (if a_1 = 0 then (bd (f_X5_no M (-2 : Int32)) fun a_14 => (some (a_14.1, a_14.2))) else (lp (fun (nx25 : (Int32 × Int32 × Int32 × St) → Option (Int32 × St)) (q25 : Int32 × Int32 × Int32 × St) => (if (q25.2.2.2 16 1) ≤ q25.2.2.1 then (if p1 = 0 then (some (q25.1, q25.2.2.2)) else (some (q25.2.1, q25.2.2.2))) else (bd (f_X5_canTell q25.2.2.2 q25.2.2.1) fun a_5 => (if a_5 = 0 then (if q25.2.1 < (-9 : Int32) then (nm (q25.2.2.1 + (1 : Int32)) fun v_8 => (nx25 (q25.2.2.1, (-9 : Int32), v_8, q25.2.2.2))) else (nm (q25.2.2.1 + (1 : Int32)) fun v_9 => (nx25 (q25.1, q25.2.1, v_9, q25.2.2.2)))) else (bd (f_X5_risesBy q25.2.2.2 q25.2.2.1) fun a_10 => (if q25.2.1 < a_10.1 then (nm (q25.2.2.1 + (1 : Int32)) fun v_12 => (nx25 (q25.2.2.1, a_10.1, v_12, a_10.2))) else (nm (q25.2.2.1 + (1 : Int32)) fun v_13 => (nx25 (q25.1, q25.2.1, v_13, a_10.2))))))))) 1000 ((-9 : Int32), (-9 : Int32), (0 : Int32), M))))
def rm_X5_loudest : Room := { frames := 5, cells := 0, slots := 0, locals := 110 }
theorem hd_X5_loudest : yX5_loudest.cls = RX5 ∧ yX5_loudest.cls ≠ "java/lang/invoke/MethodHandle" ∧ yX5_loudest.cls ≠ "java/lang/invoke/VarHandle" ∧ (parseMethodDescriptor yX5_loudest.desc).map (fun d => d.parameters.length) = some 1 := by decide +kernel
set_option maxRecDepth 100000 in
set_option maxHeartbeats 4000000 in
theorem c_X5_loudest (l : Launch) (D : va_G) (cI : ClassId) (A : Nat → Nat) (M : St) (p1 : Int32) (r : Int32 × St) (hf : f_X5_loudest M p1 = some r) : Ct l yX5_loudest wsX5_loudest rm_X5_loudest D cI (cM cI A M) (cM cI A r.2) [.ref (A 0), .int p1] (some (.int r.1)) := by
  unfold f_X5_loudest at hf
  refine Ct.ofI (cc := cX5_loudest) (maxL := 6) (by decide +kernel) rfl (Nat.le_of_ble_eq_true rfl) ?_
  intro p e s m args below meth c AA Q H locs ls hx hb hml hown hts hA hK hP hD hS hl hend0
  have hend : ∀ (r1 : Int32 × St) (H : Heap) (locs : List Loc) (pc : Nat) (ls : Array Slot), some r1 = some r → va_P D vwCl (cM cI A r1.2) H → va_S AA s.heap H locs → decode cX5_loudest pc = .ok (.ireturn, 1) → W p l e rm_X5_loudest s m args below meth c H locs 0 0 Q (F0 m pc ls [.int r1.1]) := by
    intro r1 H locs pc ls e1 hP hS hd; cases e1; exact hend0 H locs pc ls hP hS hd
  clear hend0
  have hw5 : ∀ w ∈ wsX50, w ∈ wsX5_loudest := by decide +kernel
  have k65 := hts (.fieldLink RX5 65 "AnchorsForConfessionModel" "men" "I") (by decide +kernel)
  replace hl : lv_has ls 6 [(0, .ref (A 0)), (1, .int p1)] := hl
  refine lv_iload_n hx hb dX5_loudest_0 rfl (lv_at hl 1 rfl) ?_
  refine lv_iconst (v := 0) hx hb dX5_loudest_1 (by decide) ?_
  refine lv_iconst (v := 1) hx hb dX5_loudest_2 (by decide) ?_
  obtain ⟨a_1, ha_1, hf⟩ := bd_e hf
  refine Ct.callS (As := [.int p1, .int (0 : Int32), .int (1 : Int32)]) (rest := []) (st1 := [.int a_1]) (c_X5_isIn l D cI  p1 (0 : Int32) (1 : Int32) a_1 ha_1) hx hb hml hown hts (va_cwS 3 hts gX5_loudest_X5_isIn rfl rfl rfl hd_X5_isIn ⟨Nat.le_of_ble_eq_true rfl, Nat.le_of_ble_eq_true rfl⟩) Ln.nil hA hK hP hD hS rfl hl.1 rfl rfl (Nat.le_of_ble_eq_true rfl) dX5_loudest_3 (fun H locs hP hD hS => ?_)
  refine lv_if_ne (tgt := 16) hx hb dX5_loudest_6 (by decide) (fun c_2 => ?_) (fun c_2 => ?_)
  · replace hf := if_f c_2 hf
    refine lv_bipush (v := -9) hx hb dX5_loudest_16 (by decide +kernel) ?_
    refine lv_istore_n (lv' := [(2, .int (-9 : Int32)), (0, .ref (A 0)), (1, .int p1)]) hx hb dX5_loudest_18 rfl hl (by decide) rfl (fun ls hl => ?_)
    refine lv_bipush (v := -9) hx hb dX5_loudest_19 (by decide +kernel) ?_
    refine lv_istore_n (lv' := [(3, .int (-9 : Int32)), (2, .int (-9 : Int32)), (0, .ref (A 0)), (1, .int p1)]) hx hb dX5_loudest_21 rfl hl (by decide) rfl (fun ls hl => ?_)
    refine lv_iconst (v := 0) hx hb dX5_loudest_22 (by decide) ?_
    refine lv_istore (lv' := [(4, .int (0 : Int32)), (3, .int (-9 : Int32)), (2, .int (-9 : Int32)), (0, .ref (A 0)), (1, .int p1)]) hx hb dX5_loudest_23 hl (by decide) rfl (fun ls hl => ?_)
    refine lp_ind (P := fun (q25 : Int32 × Int32 × Int32 × St) => ∀ (H : Heap) (locs : List Loc) (ls : Array Slot), va_P D vwCl (cM cI A q25.2.2.2) H → va_D AA (cM cI A q25.2.2.2) → va_S AA s.heap H locs → lv_has ls 6 [(0, .ref (A 0)), (1, .int p1), (2, .int q25.1), (3, .int q25.2.1), (4, .int q25.2.2.1)] → W p l e rm_X5_loudest s m args below meth c H locs 0 0 Q (F0 m 25 ls [])) hf ?_ H locs ls hP hD hS (lv_sub hl [3, 4, 2, 1, 0] rfl)
    clear hf hP hD hS hl
    intro nx25 ih25 q25 hf H locs ls hP hD hS hl
    refine lv_iload hx hb dX5_loudest_25 (lv_at hl 4 rfl) ?_
    refine lv_aload_n hx hb dX5_loudest_27 rfl (lv_at hl 0 rfl) ?_
    refine va_get (D := D) (ci := 5) (v := .int (q25.2.2.2 16 1)) (C := RX5) (T := TX5) (N := 27) hx hb hts hw5 hown hK hP 0 cM_at0 rfl 9 (by decide) k65 (fun _ h9 => h9) rfl dX5_loudest_28 ?_
    refine lv_icmp_ge (tgt := 77) hx hb dX5_loudest_31 (by decide) (fun c_3 => ?_) (fun c_3 => ?_)
    · replace hf := if_t c_3 hf
      refine lv_iload_n hx hb dX5_loudest_77 rfl (lv_at hl 1 rfl) ?_
      refine lv_if_ne (tgt := 85) hx hb dX5_loudest_78 (by decide) (fun c_4 => ?_) (fun c_4 => ?_)
      · replace hf := if_f c_4 hf
        refine lv_iload_n hx hb dX5_loudest_85 rfl (lv_at hl 3 rfl) ?_
        exact hend (q25.2.1, q25.2.2.2) H locs _ _ hf hP hS dX5_loudest_86
      · replace hf := if_t c_4 hf
        refine lv_iload_n hx hb dX5_loudest_81 rfl (lv_at hl 2 rfl) ?_
        refine lv_goto (tgt := 86) hx hb dX5_loudest_82 (by decide) ?_
        exact hend (q25.1, q25.2.2.2) H locs _ _ hf hP hS dX5_loudest_86
    · replace hf := if_f c_3 hf
      refine lv_aload_n hx hb dX5_loudest_34 rfl (lv_at hl 0 rfl) ?_
      refine lv_iload hx hb dX5_loudest_35 (lv_at hl 4 rfl) ?_
      obtain ⟨a_5, ha_5, hf⟩ := bd_e hf
      refine Ct.callV (As := [.int q25.2.2.1]) (rest := []) (st1 := [.int a_5]) (c_X5_canTell l D cI A q25.2.2.2 q25.2.2.1 a_5 ha_5) hx hb hml hown hts (cwV 1 hts gX5_loudest_X5_canTell rfl rfl rfl hd_X5_canTell ⟨Nat.le_of_ble_eq_true rfl, Nat.le_of_ble_eq_true rfl⟩) (va_recv hK hP (ci := 5) (q0 := 0) rfl cM_at0) (Ln.id rfl) hA hK hP hD hS rfl hl.1 rfl rfl (Nat.le_of_ble_eq_true rfl) dX5_loudest_37 (fun H locs hP hD hS => ?_)
      refine lv_if_eq (tgt := 52) hx hb dX5_loudest_40 (by decide) (fun c_6 => ?_) (fun c_6 => ?_)
      · replace hf := if_t c_6 hf
        refine lv_bipush (v := -9) hx hb dX5_loudest_52 (by decide +kernel) ?_
        refine lv_istore (lv' := [(5, .int (-9 : Int32)), (0, .ref (A 0)), (1, .int p1), (2, .int q25.1), (3, .int q25.2.1), (4, .int q25.2.2.1)]) hx hb dX5_loudest_54 hl (by decide) rfl (fun ls hl => ?_)
        refine lv_iload hx hb dX5_loudest_56 (lv_at hl 0 rfl) ?_
        refine lv_iload_n hx hb dX5_loudest_58 rfl (lv_at hl 4 rfl) ?_
        refine lv_icmp_gt (tgt := 65) hx hb dX5_loudest_59 (by decide) (fun c_7 => ?_) (fun c_7 => ?_)
        · replace hf := if_t c_7 hf
          refine lv_iload hx hb dX5_loudest_65 (lv_at hl 5 rfl) ?_
          refine lv_istore_n (lv' := [(2, .int q25.2.2.1), (5, .int (-9 : Int32)), (0, .ref (A 0)), (1, .int p1), (3, .int q25.2.1), (4, .int q25.2.2.1)]) hx hb dX5_loudest_67 rfl hl (by decide) rfl (fun ls hl => ?_)
          refine lv_iload hx hb dX5_loudest_68 (lv_at hl 1 rfl) ?_
          refine lv_istore_n (lv' := [(3, .int (-9 : Int32)), (2, .int q25.2.2.1), (5, .int (-9 : Int32)), (0, .ref (A 0)), (1, .int p1), (4, .int q25.2.2.1)]) hx hb dX5_loudest_70 rfl hl (by decide) rfl (fun ls hl => ?_)
          obtain ⟨v_8, ev_8, hf⟩ := nm_e hf
          refine lv_iinc (v := v_8) (lv' := [(4, .int v_8), (3, .int (-9 : Int32)), (2, .int q25.2.2.1), (5, .int (-9 : Int32)), (0, .ref (A 0)), (1, .int p1)]) hx hb dX5_loudest_71 hl (k := 5) rfl (by rw [ev_8]; rfl) (by decide) rfl (fun ls hl => ?_)
          refine lv_goto (tgt := 25) hx hb dX5_loudest_74 (by decide) ?_
          exact ih25 (q25.2.2.1, (-9 : Int32), v_8, q25.2.2.2) hf H locs ls hP hD hS (lv_sub hl [4, 5, 2, 1, 0] rfl)
        · replace hf := if_f c_7 hf
          refine lv_goto (tgt := 71) hx hb dX5_loudest_62 (by decide) ?_
          obtain ⟨v_9, ev_9, hf⟩ := nm_e hf
          refine lv_iinc (v := v_9) (lv' := [(4, .int v_9), (5, .int (-9 : Int32)), (0, .ref (A 0)), (1, .int p1), (2, .int q25.1), (3, .int q25.2.1)]) hx hb dX5_loudest_71 hl (k := 5) rfl (by rw [ev_9]; rfl) (by decide) rfl (fun ls hl => ?_)
          refine lv_goto (tgt := 25) hx hb dX5_loudest_74 (by decide) ?_
          exact ih25 (q25.1, q25.2.1, v_9, q25.2.2.2) hf H locs ls hP hD hS (lv_sub hl [2, 3, 4, 5, 0] rfl)
      · replace hf := if_f c_6 hf
        refine lv_aload_n hx hb dX5_loudest_43 rfl (lv_at hl 0 rfl) ?_
        refine lv_iload hx hb dX5_loudest_44 (lv_at hl 4 rfl) ?_
        obtain ⟨a_10, ha_10, hf⟩ := bd_e hf
        refine Ct.callV (As := [.int q25.2.2.1]) (rest := []) (st1 := [.int a_10.1]) (c_X5_risesBy l D cI A q25.2.2.2 q25.2.2.1 a_10 ha_10) hx hb hml hown hts (cwV 1 hts gX5_loudest_X5_risesBy rfl rfl rfl hd_X5_risesBy ⟨Nat.le_of_ble_eq_true rfl, Nat.le_of_ble_eq_true rfl⟩) (va_recv hK hP (ci := 5) (q0 := 0) rfl cM_at0) (Ln.id rfl) hA hK hP hD hS rfl hl.1 rfl rfl (Nat.le_of_ble_eq_true rfl) dX5_loudest_46 (fun H locs hP hD hS => ?_)
        replace hP : va_P D vwCl (cM cI A a_10.2) H := hP
        replace hD : va_D AA (cM cI A a_10.2) := hD
        refine lv_goto (tgt := 54) hx hb dX5_loudest_49 (by decide) ?_
        refine lv_istore (lv' := [(5, .int a_10.1), (0, .ref (A 0)), (1, .int p1), (2, .int q25.1), (3, .int q25.2.1), (4, .int q25.2.2.1)]) hx hb dX5_loudest_54 hl (by decide) rfl (fun ls hl => ?_)
        refine lv_iload hx hb dX5_loudest_56 (lv_at hl 0 rfl) ?_
        refine lv_iload_n hx hb dX5_loudest_58 rfl (lv_at hl 4 rfl) ?_
        refine lv_icmp_gt (tgt := 65) hx hb dX5_loudest_59 (by decide) (fun c_11 => ?_) (fun c_11 => ?_)
        · replace hf := if_t c_11 hf
          refine lv_iload hx hb dX5_loudest_65 (lv_at hl 5 rfl) ?_
          refine lv_istore_n (lv' := [(2, .int q25.2.2.1), (5, .int a_10.1), (0, .ref (A 0)), (1, .int p1), (3, .int q25.2.1), (4, .int q25.2.2.1)]) hx hb dX5_loudest_67 rfl hl (by decide) rfl (fun ls hl => ?_)
          refine lv_iload hx hb dX5_loudest_68 (lv_at hl 1 rfl) ?_
          refine lv_istore_n (lv' := [(3, .int a_10.1), (2, .int q25.2.2.1), (5, .int a_10.1), (0, .ref (A 0)), (1, .int p1), (4, .int q25.2.2.1)]) hx hb dX5_loudest_70 rfl hl (by decide) rfl (fun ls hl => ?_)
          obtain ⟨v_12, ev_12, hf⟩ := nm_e hf
          refine lv_iinc (v := v_12) (lv' := [(4, .int v_12), (3, .int a_10.1), (2, .int q25.2.2.1), (5, .int a_10.1), (0, .ref (A 0)), (1, .int p1)]) hx hb dX5_loudest_71 hl (k := 5) rfl (by rw [ev_12]; rfl) (by decide) rfl (fun ls hl => ?_)
          refine lv_goto (tgt := 25) hx hb dX5_loudest_74 (by decide) ?_
          exact ih25 (q25.2.2.1, a_10.1, v_12, a_10.2) hf H locs ls hP hD hS (lv_sub hl [4, 5, 2, 1, 0] rfl)
        · replace hf := if_f c_11 hf
          refine lv_goto (tgt := 71) hx hb dX5_loudest_62 (by decide) ?_
          obtain ⟨v_13, ev_13, hf⟩ := nm_e hf
          refine lv_iinc (v := v_13) (lv' := [(4, .int v_13), (5, .int a_10.1), (0, .ref (A 0)), (1, .int p1), (2, .int q25.1), (3, .int q25.2.1)]) hx hb dX5_loudest_71 hl (k := 5) rfl (by rw [ev_13]; rfl) (by decide) rfl (fun ls hl => ?_)
          refine lv_goto (tgt := 25) hx hb dX5_loudest_74 (by decide) ?_
          exact ih25 (q25.1, q25.2.1, v_13, a_10.2) hf H locs ls hP hD hS (lv_sub hl [2, 3, 4, 5, 0] rfl)
  · replace hf := if_t c_2 hf
    refine lv_aload_n hx hb dX5_loudest_9 rfl (lv_at hl 0 rfl) ?_
    refine lv_bipush (v := -2) hx hb dX5_loudest_10 (by decide +kernel) ?_
    obtain ⟨a_14, ha_14, hf⟩ := bd_e hf
    refine Ct.callV (As := [.int (-2 : Int32)]) (rest := []) (st1 := [.int a_14.1]) (c_X5_no l D cI A M (-2 : Int32) a_14 ha_14) hx hb hml hown hts (cwV 1 hts gX5_loudest_X5_no rfl rfl rfl hd_X5_no ⟨Nat.le_of_ble_eq_true rfl, Nat.le_of_ble_eq_true rfl⟩) (va_recv hK hP (ci := 5) (q0 := 0) rfl cM_at0) (Ln.id rfl) hA hK hP hD hS rfl hl.1 rfl rfl (Nat.le_of_ble_eq_true rfl) dX5_loudest_12 (fun H locs hP hD hS => ?_)
    replace hP : va_P D vwCl (cM cI A a_14.2) H := hP
    replace hD : va_D AA (cM cI A a_14.2) := hD
    exact hend (a_14.1, a_14.2) H locs _ _ hf hP hS dX5_loudest_15

def f_X5_spree (M : St) (p1 : Int32) : Option (Int32 × St) := (bd (f_X5_isIn p1 (0 : Int32) (1 : Int32)) fun a_1 => (if a_1 = 0 then (bd (f_X5_no M (-2 : Int32)) fun a_16 => (some (a_16.1, a_16.2))) else (bd (f_X5_thinks M) fun a_3 => (lp (fun (nx22 : (Int32 × St) → Option (Int32 × St)) (q22 : Int32 × St) => (if (q22.2 16 1) ≤ q22.1 then (if p1 = 0 then (bd (f_X5_outOnes q22.2) fun a_8 => (bd (f_X5_bits a_8) fun a_9 => (bd (f_X5_forgets q22.2) fun a_10 => (some (a_9, a_10))))) else (nm (q22.2 16 2) fun v_6 => (bd (f_X5_forgets q22.2) fun a_7 => (some (v_6, a_7))))) else (bd (f_X5_canTell q22.2 q22.1) fun a_11 => (if a_11 = 0 then (nm (q22.1 + (1 : Int32)) fun v_13 => (nx22 (v_13, q22.2))) else (bd (f_X5_tellsOne q22.2 q22.1) fun a_14 => (nm (q22.1 + (1 : Int32)) fun v_15 => (nx22 (v_15, a_14.2)))))))) 1000 ((0 : Int32), a_3)))))
def rm_X5_spree : Room := { frames := 4, cells := 0, slots := 0, locals := 88 }
theorem hd_X5_spree : yX5_spree.cls = RX5 ∧ yX5_spree.cls ≠ "java/lang/invoke/MethodHandle" ∧ yX5_spree.cls ≠ "java/lang/invoke/VarHandle" ∧ (parseMethodDescriptor yX5_spree.desc).map (fun d => d.parameters.length) = some 1 := by decide +kernel
set_option maxRecDepth 100000 in
set_option maxHeartbeats 4000000 in
theorem c_X5_spree (l : Launch) (D : va_G) (cI : ClassId) (A : Nat → Nat) (M : St) (p1 : Int32) (r : Int32 × St) (hf : f_X5_spree M p1 = some r) : Ct l yX5_spree wsX5_spree rm_X5_spree D cI (cM cI A M) (cM cI A r.2) [.ref (A 0), .int p1] (some (.int r.1)) := by
  unfold f_X5_spree at hf
  refine Ct.ofI (cc := cX5_spree) (maxL := 3) (by decide +kernel) rfl (Nat.le_of_ble_eq_true rfl) ?_
  intro p e s m args below meth c AA Q H locs ls hx hb hml hown hts hA hK hP hD hS hl hend0
  have hend : ∀ (r1 : Int32 × St) (H : Heap) (locs : List Loc) (pc : Nat) (ls : Array Slot), some r1 = some r → va_P D vwCl (cM cI A r1.2) H → va_S AA s.heap H locs → decode cX5_spree pc = .ok (.ireturn, 1) → W p l e rm_X5_spree s m args below meth c H locs 0 0 Q (F0 m pc ls [.int r1.1]) := by
    intro r1 H locs pc ls e1 hP hS hd; cases e1; exact hend0 H locs pc ls hP hS hd
  clear hend0
  have hw5 : ∀ w ∈ wsX50, w ∈ wsX5_spree := by decide +kernel
  have k65 := hts (.fieldLink RX5 65 "AnchorsForConfessionModel" "men" "I") (by decide +kernel)
  have k160 := hts (.fieldLink RX5 160 "AnchorsForConfessionModel" "heard" "I") (by decide +kernel)
  replace hl : lv_has ls 3 [(0, .ref (A 0)), (1, .int p1)] := hl
  refine lv_iload_n hx hb dX5_spree_0 rfl (lv_at hl 1 rfl) ?_
  refine lv_iconst (v := 0) hx hb dX5_spree_1 (by decide) ?_
  refine lv_iconst (v := 1) hx hb dX5_spree_2 (by decide) ?_
  obtain ⟨a_1, ha_1, hf⟩ := bd_e hf
  refine Ct.callS (As := [.int p1, .int (0 : Int32), .int (1 : Int32)]) (rest := []) (st1 := [.int a_1]) (c_X5_isIn l D cI  p1 (0 : Int32) (1 : Int32) a_1 ha_1) hx hb hml hown hts (va_cwS 3 hts gX5_spree_X5_isIn rfl rfl rfl hd_X5_isIn ⟨Nat.le_of_ble_eq_true rfl, Nat.le_of_ble_eq_true rfl⟩) Ln.nil hA hK hP hD hS rfl hl.1 rfl rfl (Nat.le_of_ble_eq_true rfl) dX5_spree_3 (fun H locs hP hD hS => ?_)
  refine lv_if_ne (tgt := 16) hx hb dX5_spree_6 (by decide) (fun c_2 => ?_) (fun c_2 => ?_)
  · replace hf := if_f c_2 hf
    refine lv_aload_n hx hb dX5_spree_16 rfl (lv_at hl 0 rfl) ?_
    obtain ⟨a_3, ha_3, hf⟩ := bd_e hf
    refine Ct.callV (As := []) (rest := []) (st1 := []) (c_X5_thinks l D cI A M a_3 ha_3) hx hb hml hown hts (cwV 0 hts gX5_spree_X5_thinks rfl rfl rfl hd_X5_thinks ⟨Nat.le_of_ble_eq_true rfl, Nat.le_of_ble_eq_true rfl⟩) (va_recv hK hP (ci := 5) (q0 := 0) rfl cM_at0) (Ln.id rfl) hA hK hP hD hS rfl hl.1 rfl rfl (Nat.le_of_ble_eq_true rfl) dX5_spree_17 (fun H locs hP hD hS => ?_)
    replace hP : va_P D vwCl (cM cI A a_3) H := hP
    replace hD : va_D AA (cM cI A a_3) := hD
    refine lv_iconst (v := 0) hx hb dX5_spree_20 (by decide) ?_
    refine lv_istore_n (lv' := [(2, .int (0 : Int32)), (0, .ref (A 0)), (1, .int p1)]) hx hb dX5_spree_21 rfl hl (by decide) rfl (fun ls hl => ?_)
    refine lp_ind (P := fun (q22 : Int32 × St) => ∀ (H : Heap) (locs : List Loc) (ls : Array Slot), va_P D vwCl (cM cI A q22.2) H → va_D AA (cM cI A q22.2) → va_S AA s.heap H locs → lv_has ls 3 [(0, .ref (A 0)), (1, .int p1), (2, .int q22.1)] → W p l e rm_X5_spree s m args below meth c H locs 0 0 Q (F0 m 22 ls [])) hf ?_ H locs ls hP hD hS (lv_sub hl [1, 2, 0] rfl)
    clear hf hP hD hS hl
    intro nx22 ih22 q22 hf H locs ls hP hD hS hl
    refine lv_iload_n hx hb dX5_spree_22 rfl (lv_at hl 2 rfl) ?_
    refine lv_aload_n hx hb dX5_spree_23 rfl (lv_at hl 0 rfl) ?_
    refine va_get (D := D) (ci := 5) (v := .int (q22.2 16 1)) (C := RX5) (T := TX5) (N := 27) hx hb hts hw5 hown hK hP 0 cM_at0 rfl 9 (by decide) k65 (fun _ h9 => h9) rfl dX5_spree_24 ?_
    refine lv_icmp_ge (tgt := 50) hx hb dX5_spree_27 (by decide) (fun c_4 => ?_) (fun c_4 => ?_)
    · replace hf := if_t c_4 hf
      refine lv_iload_n hx hb dX5_spree_50 rfl (lv_at hl 1 rfl) ?_
      refine lv_if_ne (tgt := 64) hx hb dX5_spree_51 (by decide) (fun c_5 => ?_) (fun c_5 => ?_)
      · replace hf := if_f c_5 hf
        refine lv_aload_n hx hb dX5_spree_64 rfl (lv_at hl 0 rfl) ?_
        refine va_get (D := D) (ci := 5) (v := .int (q22.2 16 2)) (C := RX5) (T := TX5) (N := 27) hx hb hts hw5 hown hK hP 0 cM_at0 rfl 10 (by decide) k160 (fun _ h9 => h9) rfl dX5_spree_65 ?_
        refine lv_topi (fun v_6 ev_6 => ?_)
        replace hf := nm_at ev_6 hf
        refine lv_istore_n (lv' := [(2, .int v_6), (0, .ref (A 0)), (1, .int p1)]) hx hb dX5_spree_68 rfl hl (by decide) rfl (fun ls hl => ?_)
        refine lv_aload_n hx hb dX5_spree_69 rfl (lv_at hl 1 rfl) ?_
        obtain ⟨a_7, ha_7, hf⟩ := bd_e hf
        refine Ct.callV (As := []) (rest := []) (st1 := []) (c_X5_forgets l D cI A q22.2 a_7 ha_7) hx hb hml hown hts (cwV 0 hts gX5_spree_X5_forgets rfl rfl rfl hd_X5_forgets ⟨Nat.le_of_ble_eq_true rfl, Nat.le_of_ble_eq_true rfl⟩) (va_recv hK hP (ci := 5) (q0 := 0) rfl cM_at0) (Ln.id rfl) hA hK hP hD hS rfl hl.1 rfl rfl (Nat.le_of_ble_eq_true rfl) dX5_spree_70 (fun H locs hP hD hS => ?_)
        replace hP : va_P D vwCl (cM cI A a_7) H := hP
        replace hD : va_D AA (cM cI A a_7) := hD
        refine lv_iload_n hx hb dX5_spree_73 rfl (lv_at hl 0 rfl) ?_
        exact hend (v_6, a_7) H locs _ _ hf hP hS dX5_spree_74
      · replace hf := if_t c_5 hf
        refine lv_aload_n hx hb dX5_spree_54 rfl (lv_at hl 0 rfl) ?_
        obtain ⟨a_8, ha_8, hf⟩ := bd_e hf
        refine Ct.callV (As := []) (rest := []) (st1 := [.int a_8]) (c_X5_outOnes l D cI A q22.2 a_8 ha_8) hx hb hml hown hts (cwV 0 hts gX5_spree_X5_outOnes rfl rfl rfl hd_X5_outOnes ⟨Nat.le_of_ble_eq_true rfl, Nat.le_of_ble_eq_true rfl⟩) (va_recv hK hP (ci := 5) (q0 := 0) rfl cM_at0) (Ln.id rfl) hA hK hP hD hS rfl hl.1 rfl rfl (Nat.le_of_ble_eq_true rfl) dX5_spree_55 (fun H locs hP hD hS => ?_)
        obtain ⟨a_9, ha_9, hf⟩ := bd_e hf
        refine Ct.callS (As := [.int a_8]) (rest := []) (st1 := [.int a_9]) (c_X5_bits l D cI  a_8 a_9 ha_9) hx hb hml hown hts (va_cwS 1 hts gX5_spree_X5_bits rfl rfl rfl hd_X5_bits ⟨Nat.le_of_ble_eq_true rfl, Nat.le_of_ble_eq_true rfl⟩) Ln.nil hA hK hP hD hS rfl hl.1 rfl rfl (Nat.le_of_ble_eq_true rfl) dX5_spree_58 (fun H locs hP hD hS => ?_)
        refine lv_goto (tgt := 68) hx hb dX5_spree_61 (by decide) ?_
        refine lv_istore_n (lv' := [(2, .int a_9), (0, .ref (A 0)), (1, .int p1)]) hx hb dX5_spree_68 rfl hl (by decide) rfl (fun ls hl => ?_)
        refine lv_aload_n hx hb dX5_spree_69 rfl (lv_at hl 1 rfl) ?_
        obtain ⟨a_10, ha_10, hf⟩ := bd_e hf
        refine Ct.callV (As := []) (rest := []) (st1 := []) (c_X5_forgets l D cI A q22.2 a_10 ha_10) hx hb hml hown hts (cwV 0 hts gX5_spree_X5_forgets rfl rfl rfl hd_X5_forgets ⟨Nat.le_of_ble_eq_true rfl, Nat.le_of_ble_eq_true rfl⟩) (va_recv hK hP (ci := 5) (q0 := 0) rfl cM_at0) (Ln.id rfl) hA hK hP hD hS rfl hl.1 rfl rfl (Nat.le_of_ble_eq_true rfl) dX5_spree_70 (fun H locs hP hD hS => ?_)
        replace hP : va_P D vwCl (cM cI A a_10) H := hP
        replace hD : va_D AA (cM cI A a_10) := hD
        refine lv_iload_n hx hb dX5_spree_73 rfl (lv_at hl 0 rfl) ?_
        exact hend (a_9, a_10) H locs _ _ hf hP hS dX5_spree_74
    · replace hf := if_f c_4 hf
      refine lv_aload_n hx hb dX5_spree_30 rfl (lv_at hl 0 rfl) ?_
      refine lv_iload_n hx hb dX5_spree_31 rfl (lv_at hl 2 rfl) ?_
      obtain ⟨a_11, ha_11, hf⟩ := bd_e hf
      refine Ct.callV (As := [.int q22.1]) (rest := []) (st1 := [.int a_11]) (c_X5_canTell l D cI A q22.2 q22.1 a_11 ha_11) hx hb hml hown hts (cwV 1 hts gX5_spree_X5_canTell rfl rfl rfl hd_X5_canTell ⟨Nat.le_of_ble_eq_true rfl, Nat.le_of_ble_eq_true rfl⟩) (va_recv hK hP (ci := 5) (q0 := 0) rfl cM_at0) (Ln.id rfl) hA hK hP hD hS rfl hl.1 rfl rfl (Nat.le_of_ble_eq_true rfl) dX5_spree_32 (fun H locs hP hD hS => ?_)
      refine lv_if_eq (tgt := 44) hx hb dX5_spree_35 (by decide) (fun c_12 => ?_) (fun c_12 => ?_)
      · replace hf := if_t c_12 hf
        obtain ⟨v_13, ev_13, hf⟩ := nm_e hf
        refine lv_iinc (v := v_13) (lv' := [(2, .int v_13), (0, .ref (A 0)), (1, .int p1)]) hx hb dX5_spree_44 hl (k := 2) rfl (by rw [ev_13]; rfl) (by decide) rfl (fun ls hl => ?_)
        refine lv_goto (tgt := 22) hx hb dX5_spree_47 (by decide) ?_
        exact ih22 (v_13, q22.2) hf H locs ls hP hD hS (lv_sub hl [1, 2, 0] rfl)
      · replace hf := if_f c_12 hf
        refine lv_aload_n hx hb dX5_spree_38 rfl (lv_at hl 0 rfl) ?_
        refine lv_iload_n hx hb dX5_spree_39 rfl (lv_at hl 2 rfl) ?_
        obtain ⟨a_14, ha_14, hf⟩ := bd_e hf
        refine Ct.callV (As := [.int q22.1]) (rest := []) (st1 := [.int a_14.1]) (c_X5_tellsOne l D cI A q22.2 q22.1 a_14 ha_14) hx hb hml hown hts (cwV 1 hts gX5_spree_X5_tellsOne rfl rfl rfl hd_X5_tellsOne ⟨Nat.le_of_ble_eq_true rfl, Nat.le_of_ble_eq_true rfl⟩) (va_recv hK hP (ci := 5) (q0 := 0) rfl cM_at0) (Ln.id rfl) hA hK hP hD hS rfl hl.1 rfl rfl (Nat.le_of_ble_eq_true rfl) dX5_spree_40 (fun H locs hP hD hS => ?_)
        replace hP : va_P D vwCl (cM cI A a_14.2) H := hP
        replace hD : va_D AA (cM cI A a_14.2) := hD
        refine lv_pop hx hb dX5_spree_43 rfl ?_
        obtain ⟨v_15, ev_15, hf⟩ := nm_e hf
        refine lv_iinc (v := v_15) (lv' := [(2, .int v_15), (0, .ref (A 0)), (1, .int p1)]) hx hb dX5_spree_44 hl (k := 2) rfl (by rw [ev_15]; rfl) (by decide) rfl (fun ls hl => ?_)
        refine lv_goto (tgt := 22) hx hb dX5_spree_47 (by decide) ?_
        exact ih22 (v_15, a_14.2) hf H locs ls hP hD hS (lv_sub hl [1, 2, 0] rfl)
  · replace hf := if_t c_2 hf
    refine lv_aload_n hx hb dX5_spree_9 rfl (lv_at hl 0 rfl) ?_
    refine lv_bipush (v := -2) hx hb dX5_spree_10 (by decide +kernel) ?_
    obtain ⟨a_16, ha_16, hf⟩ := bd_e hf
    refine Ct.callV (As := [.int (-2 : Int32)]) (rest := []) (st1 := [.int a_16.1]) (c_X5_no l D cI A M (-2 : Int32) a_16 ha_16) hx hb hml hown hts (cwV 1 hts gX5_spree_X5_no rfl rfl rfl hd_X5_no ⟨Nat.le_of_ble_eq_true rfl, Nat.le_of_ble_eq_true rfl⟩) (va_recv hK hP (ci := 5) (q0 := 0) rfl cM_at0) (Ln.id rfl) hA hK hP hD hS rfl hl.1 rfl rfl (Nat.le_of_ble_eq_true rfl) dX5_spree_12 (fun H locs hP hD hS => ?_)
    replace hP : va_P D vwCl (cM cI A a_16.2) H := hP
    replace hD : va_D AA (cM cI A a_16.2) := hD
    exact hend (a_16.1, a_16.2) H locs _ _ hf hP hS dX5_spree_15

def f_X5_lacksBehind (M : St) (p1 : Int32) (p2 : Int32) : Option (Int32 × St) := (bd (f_X5_thinks M) fun a_1 => (bd (f_X5_goes a_1 p2) fun a_2 => (bd (f_X5_tellsOne a_2 p1) fun a_3 => (gi p1 8 (bd (f_X5_lacks a_3.2 (a_3.2 7 (p1).toNatClampNeg)) fun a_5 => (bd (f_X5_forgets a_3.2) fun a_6 => (some (a_5, a_6))))))))
def rm_X5_lacksBehind : Room := { frames := 4, cells := 0, slots := 0, locals := 88 }
theorem hd_X5_lacksBehind : yX5_lacksBehind.cls = RX5 ∧ yX5_lacksBehind.cls ≠ "java/lang/invoke/MethodHandle" ∧ yX5_lacksBehind.cls ≠ "java/lang/invoke/VarHandle" ∧ (parseMethodDescriptor yX5_lacksBehind.desc).map (fun d => d.parameters.length) = some 2 := by decide +kernel
set_option maxRecDepth 100000 in
set_option maxHeartbeats 4000000 in
theorem c_X5_lacksBehind (l : Launch) (D : va_G) (cI : ClassId) (A : Nat → Nat) (M : St) (p1 : Int32) (p2 : Int32) (r : Int32 × St) (hf : f_X5_lacksBehind M p1 p2 = some r) : Ct l yX5_lacksBehind wsX5_lacksBehind rm_X5_lacksBehind D cI (cM cI A M) (cM cI A r.2) [.ref (A 0), .int p1, .int p2] (some (.int r.1)) := by
  unfold f_X5_lacksBehind at hf
  refine Ct.ofI (cc := cX5_lacksBehind) (maxL := 4) (by decide +kernel) rfl (Nat.le_of_ble_eq_true rfl) ?_
  intro p e s m args below meth c AA Q H locs ls hx hb hml hown hts hA hK hP hD hS hl hend0
  have hend : ∀ (r1 : Int32 × St) (H : Heap) (locs : List Loc) (pc : Nat) (ls : Array Slot), some r1 = some r → va_P D vwCl (cM cI A r1.2) H → va_S AA s.heap H locs → decode cX5_lacksBehind pc = .ok (.ireturn, 1) → W p l e rm_X5_lacksBehind s m args below meth c H locs 0 0 Q (F0 m pc ls [.int r1.1]) := by
    intro r1 H locs pc ls e1 hP hS hd; cases e1; exact hend0 H locs pc ls hP hS hd
  clear hend0
  have hw5 : ∀ w ∈ wsX50, w ∈ wsX5_lacksBehind := by decide +kernel
  have k31 := hts (.fieldLink RX5 31 "AnchorsForConfessionModel" "aboard" "[I") (by decide +kernel)
  replace hl : lv_has ls 4 [(0, .ref (A 0)), (1, .int p1), (2, .int p2)] := hl
  refine lv_aload_n hx hb dX5_lacksBehind_0 rfl (lv_at hl 0 rfl) ?_
  obtain ⟨a_1, ha_1, hf⟩ := bd_e hf
  refine Ct.callV (As := []) (rest := []) (st1 := []) (c_X5_thinks l D cI A M a_1 ha_1) hx hb hml hown hts (cwV 0 hts gX5_lacksBehind_X5_thinks rfl rfl rfl hd_X5_thinks ⟨Nat.le_of_ble_eq_true rfl, Nat.le_of_ble_eq_true rfl⟩) (va_recv hK hP (ci := 5) (q0 := 0) rfl cM_at0) (Ln.id rfl) hA hK hP hD hS rfl hl.1 rfl rfl (Nat.le_of_ble_eq_true rfl) dX5_lacksBehind_1 (fun H locs hP hD hS => ?_)
  replace hP : va_P D vwCl (cM cI A a_1) H := hP
  replace hD : va_D AA (cM cI A a_1) := hD
  refine lv_aload_n hx hb dX5_lacksBehind_4 rfl (lv_at hl 0 rfl) ?_
  refine lv_iload_n hx hb dX5_lacksBehind_5 rfl (lv_at hl 2 rfl) ?_
  obtain ⟨a_2, ha_2, hf⟩ := bd_e hf
  refine Ct.callV (As := [.int p2]) (rest := []) (st1 := []) (c_X5_goes l D cI A a_1 p2 a_2 ha_2) hx hb hml hown hts (cwV 1 hts gX5_lacksBehind_X5_goes rfl rfl rfl hd_X5_goes ⟨Nat.le_of_ble_eq_true rfl, Nat.le_of_ble_eq_true rfl⟩) (va_recv hK hP (ci := 5) (q0 := 0) rfl cM_at0) (Ln.id rfl) hA hK hP hD hS rfl hl.1 rfl rfl (Nat.le_of_ble_eq_true rfl) dX5_lacksBehind_6 (fun H locs hP hD hS => ?_)
  replace hP : va_P D vwCl (cM cI A a_2) H := hP
  replace hD : va_D AA (cM cI A a_2) := hD
  refine lv_aload_n hx hb dX5_lacksBehind_9 rfl (lv_at hl 0 rfl) ?_
  refine lv_iload_n hx hb dX5_lacksBehind_10 rfl (lv_at hl 1 rfl) ?_
  obtain ⟨a_3, ha_3, hf⟩ := bd_e hf
  refine Ct.callV (As := [.int p1]) (rest := []) (st1 := [.int a_3.1]) (c_X5_tellsOne l D cI A a_2 p1 a_3 ha_3) hx hb hml hown hts (cwV 1 hts gX5_lacksBehind_X5_tellsOne rfl rfl rfl hd_X5_tellsOne ⟨Nat.le_of_ble_eq_true rfl, Nat.le_of_ble_eq_true rfl⟩) (va_recv hK hP (ci := 5) (q0 := 0) rfl cM_at0) (Ln.id rfl) hA hK hP hD hS rfl hl.1 rfl rfl (Nat.le_of_ble_eq_true rfl) dX5_lacksBehind_11 (fun H locs hP hD hS => ?_)
  replace hP : va_P D vwCl (cM cI A a_3.2) H := hP
  replace hD : va_D AA (cM cI A a_3.2) := hD
  refine lv_pop hx hb dX5_lacksBehind_14 rfl ?_
  refine lv_aload_n hx hb dX5_lacksBehind_15 rfl (lv_at hl 0 rfl) ?_
  refine lv_aload_n hx hb dX5_lacksBehind_16 rfl (lv_at hl 0 rfl) ?_
  refine va_get (D := D) (ci := 5) (v := .ref (A 8)) (C := RX5) (T := TX5) (N := 27) hx hb hts hw5 hown hK hP 0 cM_at0 rfl 7 (by decide) k31 (fun _ h9 => h9) rfl dX5_lacksBehind_17 ?_
  refine lv_iload_n hx hb dX5_lacksBehind_20 rfl (lv_at hl 1 rfl) ?_
  obtain ⟨c_4, hf⟩ := gi_e hf
  refine va_iald hx hb hK hP 8 0 cM_at8 rfl c_4 dX5_lacksBehind_21 ?_
  obtain ⟨a_5, ha_5, hf⟩ := bd_e hf
  refine Ct.callV (As := [.int (a_3.2 7 (p1).toNatClampNeg)]) (rest := []) (st1 := [.int a_5]) (c_X5_lacks l D cI A a_3.2 (a_3.2 7 (p1).toNatClampNeg) a_5 ha_5) hx hb hml hown hts (cwV 1 hts gX5_lacksBehind_X5_lacks rfl rfl rfl hd_X5_lacks ⟨Nat.le_of_ble_eq_true rfl, Nat.le_of_ble_eq_true rfl⟩) (va_recv hK hP (ci := 5) (q0 := 0) rfl cM_at0) (Ln.id rfl) hA hK hP hD hS rfl hl.1 rfl rfl (Nat.le_of_ble_eq_true rfl) dX5_lacksBehind_22 (fun H locs hP hD hS => ?_)
  refine lv_istore_n (lv' := [(3, .int a_5), (0, .ref (A 0)), (1, .int p1), (2, .int p2)]) hx hb dX5_lacksBehind_25 rfl hl (by decide) rfl (fun ls hl => ?_)
  refine lv_aload_n hx hb dX5_lacksBehind_26 rfl (lv_at hl 1 rfl) ?_
  obtain ⟨a_6, ha_6, hf⟩ := bd_e hf
  refine Ct.callV (As := []) (rest := []) (st1 := []) (c_X5_forgets l D cI A a_3.2 a_6 ha_6) hx hb hml hown hts (cwV 0 hts gX5_lacksBehind_X5_forgets rfl rfl rfl hd_X5_forgets ⟨Nat.le_of_ble_eq_true rfl, Nat.le_of_ble_eq_true rfl⟩) (va_recv hK hP (ci := 5) (q0 := 0) rfl cM_at0) (Ln.id rfl) hA hK hP hD hS rfl hl.1 rfl rfl (Nat.le_of_ble_eq_true rfl) dX5_lacksBehind_27 (fun H locs hP hD hS => ?_)
  replace hP : va_P D vwCl (cM cI A a_6) H := hP
  replace hD : va_D AA (cM cI A a_6) := hD
  refine lv_iload_n hx hb dX5_lacksBehind_30 rfl (lv_at hl 0 rfl) ?_
  exact hend (a_5, a_6) H locs _ _ hf hP hS dX5_lacksBehind_31

def f_X5_keep (M : St) (p1 : Int32) : Option (Int32 × St) := (bd (f_X5_isMan M p1) fun a_1 => (if a_1 = 0 then (bd (f_X5_no M (-1 : Int32)) fun a_9 => (some (a_9.1, a_9.2))) else (bd (f_X5_canTell M p1) fun a_3 => (if a_3 = 0 then (bd (f_X5_no M (-3 : Int32)) fun a_8 => (some (a_8.1, a_8.2))) else (bd (f_X5_lacksBehind M p1 (0 : Int32)) fun a_5 => (bd (f_X5_lacksBehind a_5.2 p1 (1 : Int32)) fun a_6 => (if a_6.1 < a_5.1 then (some ((0 : Int32), a_6.2)) else (some ((1 : Int32), a_6.2)))))))))
def rm_X5_keep : Room := { frames := 5, cells := 0, slots := 0, locals := 111 }
theorem hd_X5_keep : yX5_keep.cls = RX5 ∧ yX5_keep.cls ≠ "java/lang/invoke/MethodHandle" ∧ yX5_keep.cls ≠ "java/lang/invoke/VarHandle" ∧ (parseMethodDescriptor yX5_keep.desc).map (fun d => d.parameters.length) = some 1 := by decide +kernel
set_option maxRecDepth 100000 in
set_option maxHeartbeats 4000000 in
theorem c_X5_keep (l : Launch) (D : va_G) (cI : ClassId) (A : Nat → Nat) (M : St) (p1 : Int32) (r : Int32 × St) (hf : f_X5_keep M p1 = some r) : Ct l yX5_keep wsX5_keep rm_X5_keep D cI (cM cI A M) (cM cI A r.2) [.ref (A 0), .int p1] (some (.int r.1)) := by
  unfold f_X5_keep at hf
  refine Ct.ofI (cc := cX5_keep) (maxL := 3) (by decide +kernel) rfl (Nat.le_of_ble_eq_true rfl) ?_
  intro p e s m args below meth c AA Q H locs ls hx hb hml hown hts hA hK hP hD hS hl hend0
  have hend : ∀ (r1 : Int32 × St) (H : Heap) (locs : List Loc) (pc : Nat) (ls : Array Slot), some r1 = some r → va_P D vwCl (cM cI A r1.2) H → va_S AA s.heap H locs → decode cX5_keep pc = .ok (.ireturn, 1) → W p l e rm_X5_keep s m args below meth c H locs 0 0 Q (F0 m pc ls [.int r1.1]) := by
    intro r1 H locs pc ls e1 hP hS hd; cases e1; exact hend0 H locs pc ls hP hS hd
  clear hend0
  replace hl : lv_has ls 3 [(0, .ref (A 0)), (1, .int p1)] := hl
  refine lv_aload_n hx hb dX5_keep_0 rfl (lv_at hl 0 rfl) ?_
  refine lv_iload_n hx hb dX5_keep_1 rfl (lv_at hl 1 rfl) ?_
  obtain ⟨a_1, ha_1, hf⟩ := bd_e hf
  refine Ct.callV (As := [.int p1]) (rest := []) (st1 := [.int a_1]) (c_X5_isMan l D cI A M p1 a_1 ha_1) hx hb hml hown hts (cwV 1 hts gX5_keep_X5_isMan rfl rfl rfl hd_X5_isMan ⟨Nat.le_of_ble_eq_true rfl, Nat.le_of_ble_eq_true rfl⟩) (va_recv hK hP (ci := 5) (q0 := 0) rfl cM_at0) (Ln.id rfl) hA hK hP hD hS rfl hl.1 rfl rfl (Nat.le_of_ble_eq_true rfl) dX5_keep_2 (fun H locs hP hD hS => ?_)
  refine lv_if_ne (tgt := 12) hx hb dX5_keep_5 (by decide) (fun c_2 => ?_) (fun c_2 => ?_)
  · replace hf := if_f c_2 hf
    refine lv_aload_n hx hb dX5_keep_12 rfl (lv_at hl 0 rfl) ?_
    refine lv_iload_n hx hb dX5_keep_13 rfl (lv_at hl 1 rfl) ?_
    obtain ⟨a_3, ha_3, hf⟩ := bd_e hf
    refine Ct.callV (As := [.int p1]) (rest := []) (st1 := [.int a_3]) (c_X5_canTell l D cI A M p1 a_3 ha_3) hx hb hml hown hts (cwV 1 hts gX5_keep_X5_canTell rfl rfl rfl hd_X5_canTell ⟨Nat.le_of_ble_eq_true rfl, Nat.le_of_ble_eq_true rfl⟩) (va_recv hK hP (ci := 5) (q0 := 0) rfl cM_at0) (Ln.id rfl) hA hK hP hD hS rfl hl.1 rfl rfl (Nat.le_of_ble_eq_true rfl) dX5_keep_14 (fun H locs hP hD hS => ?_)
    refine lv_if_ne (tgt := 25) hx hb dX5_keep_17 (by decide) (fun c_4 => ?_) (fun c_4 => ?_)
    · replace hf := if_f c_4 hf
      refine lv_iconst (v := 0) hx hb dX5_keep_25 (by decide) ?_
      refine lv_istore_n (lv' := [(2, .int (0 : Int32)), (0, .ref (A 0)), (1, .int p1)]) hx hb dX5_keep_26 rfl hl (by decide) rfl (fun ls hl => ?_)
      refine lv_iload_n hx hb dX5_keep_27 rfl (lv_at hl 0 rfl) ?_
      refine lv_if_eq (tgt := 37) hx hb dX5_keep_28 (by decide) (fun _ => ?_) (fun c0 => absurd c0 (by decide))
      refine lv_aload_n hx hb dX5_keep_37 rfl (lv_at hl 1 rfl) ?_
      refine lv_iload_n hx hb dX5_keep_38 rfl (lv_at hl 2 rfl) ?_
      refine lv_iconst (v := 0) hx hb dX5_keep_39 (by decide) ?_
      obtain ⟨a_5, ha_5, hf⟩ := bd_e hf
      refine Ct.callV (As := [.int p1, .int (0 : Int32)]) (rest := []) (st1 := [.int a_5.1]) (c_X5_lacksBehind l D cI A M p1 (0 : Int32) a_5 ha_5) hx hb hml hown hts (cwV 2 hts gX5_keep_X5_lacksBehind rfl rfl rfl hd_X5_lacksBehind ⟨Nat.le_of_ble_eq_true rfl, Nat.le_of_ble_eq_true rfl⟩) (va_recv hK hP (ci := 5) (q0 := 0) rfl cM_at0) (Ln.id rfl) hA hK hP hD hS rfl hl.1 rfl rfl (Nat.le_of_ble_eq_true rfl) dX5_keep_40 (fun H locs hP hD hS => ?_)
      replace hP : va_P D vwCl (cM cI A a_5.2) H := hP
      replace hD : va_D AA (cM cI A a_5.2) := hD
      refine lv_aload_n hx hb dX5_keep_43 rfl (lv_at hl 1 rfl) ?_
      refine lv_iload_n hx hb dX5_keep_44 rfl (lv_at hl 2 rfl) ?_
      refine lv_iconst (v := 1) hx hb dX5_keep_45 (by decide) ?_
      obtain ⟨a_6, ha_6, hf⟩ := bd_e hf
      refine Ct.callV (As := [.int p1, .int (1 : Int32)]) (rest := [.int a_5.1]) (st1 := [.int a_6.1, .int a_5.1]) (c_X5_lacksBehind l D cI A a_5.2 p1 (1 : Int32) a_6 ha_6) hx hb hml hown hts (cwV 2 hts gX5_keep_X5_lacksBehind rfl rfl rfl hd_X5_lacksBehind ⟨Nat.le_of_ble_eq_true rfl, Nat.le_of_ble_eq_true rfl⟩) (va_recv hK hP (ci := 5) (q0 := 0) rfl cM_at0) (Ln.id rfl) hA hK hP hD hS rfl hl.1 rfl rfl (Nat.le_of_ble_eq_true rfl) dX5_keep_46 (fun H locs hP hD hS => ?_)
      replace hP : va_P D vwCl (cM cI A a_6.2) H := hP
      replace hD : va_D AA (cM cI A a_6.2) := hD
      refine lv_icmp_gt (tgt := 56) hx hb dX5_keep_49 (by decide) (fun c_7 => ?_) (fun c_7 => ?_)
      · replace hf := if_t c_7 hf
        refine lv_iconst (v := 0) hx hb dX5_keep_56 (by decide) ?_
        exact hend ((0 : Int32), a_6.2) H locs _ _ hf hP hS dX5_keep_57
      · replace hf := if_f c_7 hf
        refine lv_iconst (v := 1) hx hb dX5_keep_52 (by decide) ?_
        refine lv_goto (tgt := 57) hx hb dX5_keep_53 (by decide) ?_
        exact hend ((1 : Int32), a_6.2) H locs _ _ hf hP hS dX5_keep_57
    · replace hf := if_t c_4 hf
      refine lv_bipush (v := -3) hx hb dX5_keep_20 (by decide +kernel) ?_
      refine lv_goto (tgt := 26) hx hb dX5_keep_22 (by decide) ?_
      refine lv_istore_n (lv' := [(2, .int (-3 : Int32)), (0, .ref (A 0)), (1, .int p1)]) hx hb dX5_keep_26 rfl hl (by decide) rfl (fun ls hl => ?_)
      refine lv_iload_n hx hb dX5_keep_27 rfl (lv_at hl 0 rfl) ?_
      refine lv_if_eq (tgt := 37) hx hb dX5_keep_28 (by decide) (fun c0 => absurd c0 (by decide)) (fun _ => ?_)
      refine lv_aload_n hx hb dX5_keep_31 rfl (lv_at hl 1 rfl) ?_
      refine lv_iload_n hx hb dX5_keep_32 rfl (lv_at hl 0 rfl) ?_
      obtain ⟨a_8, ha_8, hf⟩ := bd_e hf
      refine Ct.callV (As := [.int (-3 : Int32)]) (rest := []) (st1 := [.int a_8.1]) (c_X5_no l D cI A M (-3 : Int32) a_8 ha_8) hx hb hml hown hts (cwV 1 hts gX5_keep_X5_no rfl rfl rfl hd_X5_no ⟨Nat.le_of_ble_eq_true rfl, Nat.le_of_ble_eq_true rfl⟩) (va_recv hK hP (ci := 5) (q0 := 0) rfl cM_at0) (Ln.id rfl) hA hK hP hD hS rfl hl.1 rfl rfl (Nat.le_of_ble_eq_true rfl) dX5_keep_33 (fun H locs hP hD hS => ?_)
      replace hP : va_P D vwCl (cM cI A a_8.2) H := hP
      replace hD : va_D AA (cM cI A a_8.2) := hD
      exact hend (a_8.1, a_8.2) H locs _ _ hf hP hS dX5_keep_36
  · replace hf := if_t c_2 hf
    refine lv_iconst (v := -1) hx hb dX5_keep_8 (by decide) ?_
    refine lv_goto (tgt := 26) hx hb dX5_keep_9 (by decide) ?_
    refine lv_istore_n (lv' := [(2, .int (-1 : Int32)), (0, .ref (A 0)), (1, .int p1)]) hx hb dX5_keep_26 rfl hl (by decide) rfl (fun ls hl => ?_)
    refine lv_iload_n hx hb dX5_keep_27 rfl (lv_at hl 0 rfl) ?_
    refine lv_if_eq (tgt := 37) hx hb dX5_keep_28 (by decide) (fun c0 => absurd c0 (by decide)) (fun _ => ?_)
    refine lv_aload_n hx hb dX5_keep_31 rfl (lv_at hl 1 rfl) ?_
    refine lv_iload_n hx hb dX5_keep_32 rfl (lv_at hl 0 rfl) ?_
    obtain ⟨a_9, ha_9, hf⟩ := bd_e hf
    refine Ct.callV (As := [.int (-1 : Int32)]) (rest := []) (st1 := [.int a_9.1]) (c_X5_no l D cI A M (-1 : Int32) a_9 ha_9) hx hb hml hown hts (cwV 1 hts gX5_keep_X5_no rfl rfl rfl hd_X5_no ⟨Nat.le_of_ble_eq_true rfl, Nat.le_of_ble_eq_true rfl⟩) (va_recv hK hP (ci := 5) (q0 := 0) rfl cM_at0) (Ln.id rfl) hA hK hP hD hS rfl hl.1 rfl rfl (Nat.le_of_ble_eq_true rfl) dX5_keep_33 (fun H locs hP hD hS => ?_)
    replace hP : va_P D vwCl (cM cI A a_9.2) H := hP
    replace hD : va_D AA (cM cI A a_9.2) := hD
    exact hend (a_9.1, a_9.2) H locs _ _ hf hP hS dX5_keep_36

def f_X5_richest (M : St) (p1 : Int32) : Option (Int32 × St) := (bd (f_X5_isIn p1 (0 : Int32) (1 : Int32)) fun a_1 => (if a_1 = 0 then (bd (f_X5_no M (-2 : Int32)) fun a_17 => (some (a_17.1, a_17.2))) else (lp (fun (nx21 : (Int32 × Int32) → Option (Int32 × St)) (q21 : Int32 × Int32) => (if (M 16 1) ≤ q21.2 then (some (q21.1, M)) else (if q21.1 < 0 then (nm (q21.2 + (1 : Int32)) fun v_5 => (nx21 (q21.2, v_5))) else (if p1 = 0 then (gi q21.2 8 (gi q21.1 8 (if (M 6 (q21.2).toNatClampNeg) ≤ (M 6 (q21.1).toNatClampNeg) then (nm (q21.2 + (1 : Int32)) fun v_15 => (nx21 (q21.1, v_15))) else (nm (q21.2 + (1 : Int32)) fun v_16 => (nx21 (q21.2, v_16)))))) else (bd (f_X5_worth M q21.2) fun a_7 => (bd (f_X5_worth M q21.1) fun a_8 => (if a_7 ≤ a_8 then (nm (q21.2 + (1 : Int32)) fun v_10 => (nx21 (q21.1, v_10))) else (nm (q21.2 + (1 : Int32)) fun v_11 => (nx21 (q21.2, v_11)))))))))) 1000 ((-9 : Int32), (0 : Int32)))))
def rm_X5_richest : Room := { frames := 2, cells := 0, slots := 0, locals := 45 }
theorem hd_X5_richest : yX5_richest.cls = RX5 ∧ yX5_richest.cls ≠ "java/lang/invoke/MethodHandle" ∧ yX5_richest.cls ≠ "java/lang/invoke/VarHandle" ∧ (parseMethodDescriptor yX5_richest.desc).map (fun d => d.parameters.length) = some 1 := by decide +kernel
set_option maxRecDepth 100000 in
set_option maxHeartbeats 4000000 in
theorem c_X5_richest (l : Launch) (D : va_G) (cI : ClassId) (A : Nat → Nat) (M : St) (p1 : Int32) (r : Int32 × St) (hf : f_X5_richest M p1 = some r) : Ct l yX5_richest wsX5_richest rm_X5_richest D cI (cM cI A M) (cM cI A r.2) [.ref (A 0), .int p1] (some (.int r.1)) := by
  unfold f_X5_richest at hf
  refine Ct.ofI (cc := cX5_richest) (maxL := 4) (by decide +kernel) rfl (Nat.le_of_ble_eq_true rfl) ?_
  intro p e s m args below meth c AA Q H locs ls hx hb hml hown hts hA hK hP hD hS hl hend0
  have hend : ∀ (r1 : Int32 × St) (H : Heap) (locs : List Loc) (pc : Nat) (ls : Array Slot), some r1 = some r → va_P D vwCl (cM cI A r1.2) H → va_S AA s.heap H locs → decode cX5_richest pc = .ok (.ireturn, 1) → W p l e rm_X5_richest s m args below meth c H locs 0 0 Q (F0 m pc ls [.int r1.1]) := by
    intro r1 H locs pc ls e1 hP hS hd; cases e1; exact hend0 H locs pc ls hP hS hd
  clear hend0
  have hw5 : ∀ w ∈ wsX50, w ∈ wsX5_richest := by decide +kernel
  have k28 := hts (.fieldLink RX5 28 "AnchorsForConfessionModel" "sins" "[I") (by decide +kernel)
  have k65 := hts (.fieldLink RX5 65 "AnchorsForConfessionModel" "men" "I") (by decide +kernel)
  replace hl : lv_has ls 4 [(0, .ref (A 0)), (1, .int p1)] := hl
  refine lv_iload_n hx hb dX5_richest_0 rfl (lv_at hl 1 rfl) ?_
  refine lv_iconst (v := 0) hx hb dX5_richest_1 (by decide) ?_
  refine lv_iconst (v := 1) hx hb dX5_richest_2 (by decide) ?_
  obtain ⟨a_1, ha_1, hf⟩ := bd_e hf
  refine Ct.callS (As := [.int p1, .int (0 : Int32), .int (1 : Int32)]) (rest := []) (st1 := [.int a_1]) (c_X5_isIn l D cI  p1 (0 : Int32) (1 : Int32) a_1 ha_1) hx hb hml hown hts (va_cwS 3 hts gX5_richest_X5_isIn rfl rfl rfl hd_X5_isIn ⟨Nat.le_of_ble_eq_true rfl, Nat.le_of_ble_eq_true rfl⟩) Ln.nil hA hK hP hD hS rfl hl.1 rfl rfl (Nat.le_of_ble_eq_true rfl) dX5_richest_3 (fun H locs hP hD hS => ?_)
  refine lv_if_ne (tgt := 16) hx hb dX5_richest_6 (by decide) (fun c_2 => ?_) (fun c_2 => ?_)
  · replace hf := if_f c_2 hf
    refine lv_bipush (v := -9) hx hb dX5_richest_16 (by decide +kernel) ?_
    refine lv_istore_n (lv' := [(2, .int (-9 : Int32)), (0, .ref (A 0)), (1, .int p1)]) hx hb dX5_richest_18 rfl hl (by decide) rfl (fun ls hl => ?_)
    refine lv_iconst (v := 0) hx hb dX5_richest_19 (by decide) ?_
    refine lv_istore_n (lv' := [(3, .int (0 : Int32)), (2, .int (-9 : Int32)), (0, .ref (A 0)), (1, .int p1)]) hx hb dX5_richest_20 rfl hl (by decide) rfl (fun ls hl => ?_)
    refine lp_ind (P := fun (q21 : Int32 × Int32) => ∀ (H : Heap) (locs : List Loc) (ls : Array Slot), va_P D vwCl (cM cI A M) H → va_D AA (cM cI A M) → va_S AA s.heap H locs → lv_has ls 4 [(0, .ref (A 0)), (1, .int p1), (2, .int q21.1), (3, .int q21.2)] → W p l e rm_X5_richest s m args below meth c H locs 0 0 Q (F0 m 21 ls [])) hf ?_ H locs ls hP hD hS (lv_sub hl [2, 3, 1, 0] rfl)
    clear hf hP hD hS hl
    intro nx21 ih21 q21 hf H locs ls hP hD hS hl
    refine lv_iload_n hx hb dX5_richest_21 rfl (lv_at hl 3 rfl) ?_
    refine lv_aload_n hx hb dX5_richest_22 rfl (lv_at hl 0 rfl) ?_
    refine va_get (D := D) (ci := 5) (v := .int (M 16 1)) (C := RX5) (T := TX5) (N := 27) hx hb hts hw5 hown hK hP 0 cM_at0 rfl 9 (by decide) k65 (fun _ h9 => h9) rfl dX5_richest_23 ?_
    refine lv_icmp_ge (tgt := 76) hx hb dX5_richest_26 (by decide) (fun c_3 => ?_) (fun c_3 => ?_)
    · replace hf := if_t c_3 hf
      refine lv_iload_n hx hb dX5_richest_76 rfl (lv_at hl 2 rfl) ?_
      exact hend (q21.1, M) H locs _ _ hf hP hS dX5_richest_77
    · replace hf := if_f c_3 hf
      refine lv_iload_n hx hb dX5_richest_29 rfl (lv_at hl 2 rfl) ?_
      refine lv_if_lt (tgt := 68) hx hb dX5_richest_30 (by decide) (fun c_4 => ?_) (fun c_4 => ?_)
      · replace hf := if_t c_4 hf
        refine lv_iload_n hx hb dX5_richest_68 rfl (lv_at hl 3 rfl) ?_
        refine lv_istore_n (lv' := [(2, .int q21.2), (0, .ref (A 0)), (1, .int p1), (3, .int q21.2)]) hx hb dX5_richest_69 rfl hl (by decide) rfl (fun ls hl => ?_)
        obtain ⟨v_5, ev_5, hf⟩ := nm_e hf
        refine lv_iinc (v := v_5) (lv' := [(3, .int v_5), (2, .int q21.2), (0, .ref (A 0)), (1, .int p1)]) hx hb dX5_richest_70 hl (k := 3) rfl (by rw [ev_5]; rfl) (by decide) rfl (fun ls hl => ?_)
        refine lv_goto (tgt := 21) hx hb dX5_richest_73 (by decide) ?_
        exact ih21 (q21.2, v_5) hf H locs ls hP hD hS (lv_sub hl [2, 3, 1, 0] rfl)
      · replace hf := if_f c_4 hf
        refine lv_iload_n hx hb dX5_richest_33 rfl (lv_at hl 1 rfl) ?_
        refine lv_if_ne (tgt := 55) hx hb dX5_richest_34 (by decide) (fun c_6 => ?_) (fun c_6 => ?_)
        · replace hf := if_f c_6 hf
          refine lv_aload_n hx hb dX5_richest_55 rfl (lv_at hl 0 rfl) ?_
          refine lv_iload_n hx hb dX5_richest_56 rfl (lv_at hl 3 rfl) ?_
          obtain ⟨a_7, ha_7, hf⟩ := bd_e hf
          refine Ct.callV (As := [.int q21.2]) (rest := []) (st1 := [.int a_7]) (c_X5_worth l D cI A M q21.2 a_7 ha_7) hx hb hml hown hts (cwV 1 hts gX5_richest_X5_worth rfl rfl rfl hd_X5_worth ⟨Nat.le_of_ble_eq_true rfl, Nat.le_of_ble_eq_true rfl⟩) (va_recv hK hP (ci := 5) (q0 := 0) rfl cM_at0) (Ln.id rfl) hA hK hP hD hS rfl hl.1 rfl rfl (Nat.le_of_ble_eq_true rfl) dX5_richest_57 (fun H locs hP hD hS => ?_)
          refine lv_aload_n hx hb dX5_richest_60 rfl (lv_at hl 0 rfl) ?_
          refine lv_iload_n hx hb dX5_richest_61 rfl (lv_at hl 2 rfl) ?_
          obtain ⟨a_8, ha_8, hf⟩ := bd_e hf
          refine Ct.callV (As := [.int q21.1]) (rest := [.int a_7]) (st1 := [.int a_8, .int a_7]) (c_X5_worth l D cI A M q21.1 a_8 ha_8) hx hb hml hown hts (cwV 1 hts gX5_richest_X5_worth rfl rfl rfl hd_X5_worth ⟨Nat.le_of_ble_eq_true rfl, Nat.le_of_ble_eq_true rfl⟩) (va_recv hK hP (ci := 5) (q0 := 0) rfl cM_at0) (Ln.id rfl) hA hK hP hD hS rfl hl.1 rfl rfl (Nat.le_of_ble_eq_true rfl) dX5_richest_62 (fun H locs hP hD hS => ?_)
          refine lv_icmp_le (tgt := 70) hx hb dX5_richest_65 (by decide) (fun c_9 => ?_) (fun c_9 => ?_)
          · replace hf := if_t c_9 hf
            obtain ⟨v_10, ev_10, hf⟩ := nm_e hf
            refine lv_iinc (v := v_10) (lv' := [(3, .int v_10), (0, .ref (A 0)), (1, .int p1), (2, .int q21.1)]) hx hb dX5_richest_70 hl (k := 3) rfl (by rw [ev_10]; rfl) (by decide) rfl (fun ls hl => ?_)
            refine lv_goto (tgt := 21) hx hb dX5_richest_73 (by decide) ?_
            exact ih21 (q21.1, v_10) hf H locs ls hP hD hS (lv_sub hl [1, 2, 3, 0] rfl)
          · replace hf := if_f c_9 hf
            refine lv_iload_n hx hb dX5_richest_68 rfl (lv_at hl 3 rfl) ?_
            refine lv_istore_n (lv' := [(2, .int q21.2), (0, .ref (A 0)), (1, .int p1), (3, .int q21.2)]) hx hb dX5_richest_69 rfl hl (by decide) rfl (fun ls hl => ?_)
            obtain ⟨v_11, ev_11, hf⟩ := nm_e hf
            refine lv_iinc (v := v_11) (lv' := [(3, .int v_11), (2, .int q21.2), (0, .ref (A 0)), (1, .int p1)]) hx hb dX5_richest_70 hl (k := 3) rfl (by rw [ev_11]; rfl) (by decide) rfl (fun ls hl => ?_)
            refine lv_goto (tgt := 21) hx hb dX5_richest_73 (by decide) ?_
            exact ih21 (q21.2, v_11) hf H locs ls hP hD hS (lv_sub hl [2, 3, 1, 0] rfl)
        · replace hf := if_t c_6 hf
          refine lv_aload_n hx hb dX5_richest_37 rfl (lv_at hl 0 rfl) ?_
          refine va_get (D := D) (ci := 5) (v := .ref (A 7)) (C := RX5) (T := TX5) (N := 27) hx hb hts hw5 hown hK hP 0 cM_at0 rfl 6 (by decide) k28 (fun _ h9 => h9) rfl dX5_richest_38 ?_
          refine lv_iload_n hx hb dX5_richest_41 rfl (lv_at hl 3 rfl) ?_
          obtain ⟨c_12, hf⟩ := gi_e hf
          refine va_iald hx hb hK hP 7 0 cM_at7 rfl c_12 dX5_richest_42 ?_
          refine lv_aload_n hx hb dX5_richest_43 rfl (lv_at hl 0 rfl) ?_
          refine va_get (D := D) (ci := 5) (v := .ref (A 7)) (C := RX5) (T := TX5) (N := 27) hx hb hts hw5 hown hK hP 0 cM_at0 rfl 6 (by decide) k28 (fun _ h9 => h9) rfl dX5_richest_44 ?_
          refine lv_iload_n hx hb dX5_richest_47 rfl (lv_at hl 2 rfl) ?_
          obtain ⟨c_13, hf⟩ := gi_e hf
          refine va_iald hx hb hK hP 7 0 cM_at7 rfl c_13 dX5_richest_48 ?_
          refine lv_icmp_le (tgt := 70) hx hb dX5_richest_49 (by decide) (fun c_14 => ?_) (fun c_14 => ?_)
          · replace hf := if_t c_14 hf
            obtain ⟨v_15, ev_15, hf⟩ := nm_e hf
            refine lv_iinc (v := v_15) (lv' := [(3, .int v_15), (0, .ref (A 0)), (1, .int p1), (2, .int q21.1)]) hx hb dX5_richest_70 hl (k := 3) rfl (by rw [ev_15]; rfl) (by decide) rfl (fun ls hl => ?_)
            refine lv_goto (tgt := 21) hx hb dX5_richest_73 (by decide) ?_
            exact ih21 (q21.1, v_15) hf H locs ls hP hD hS (lv_sub hl [1, 2, 3, 0] rfl)
          · replace hf := if_f c_14 hf
            refine lv_goto (tgt := 68) hx hb dX5_richest_52 (by decide) ?_
            refine lv_iload_n hx hb dX5_richest_68 rfl (lv_at hl 3 rfl) ?_
            refine lv_istore_n (lv' := [(2, .int q21.2), (0, .ref (A 0)), (1, .int p1), (3, .int q21.2)]) hx hb dX5_richest_69 rfl hl (by decide) rfl (fun ls hl => ?_)
            obtain ⟨v_16, ev_16, hf⟩ := nm_e hf
            refine lv_iinc (v := v_16) (lv' := [(3, .int v_16), (2, .int q21.2), (0, .ref (A 0)), (1, .int p1)]) hx hb dX5_richest_70 hl (k := 3) rfl (by rw [ev_16]; rfl) (by decide) rfl (fun ls hl => ?_)
            refine lv_goto (tgt := 21) hx hb dX5_richest_73 (by decide) ?_
            exact ih21 (q21.2, v_16) hf H locs ls hP hD hS (lv_sub hl [2, 3, 1, 0] rfl)
  · replace hf := if_t c_2 hf
    refine lv_aload_n hx hb dX5_richest_9 rfl (lv_at hl 0 rfl) ?_
    refine lv_bipush (v := -2) hx hb dX5_richest_10 (by decide +kernel) ?_
    obtain ⟨a_17, ha_17, hf⟩ := bd_e hf
    refine Ct.callV (As := [.int (-2 : Int32)]) (rest := []) (st1 := [.int a_17.1]) (c_X5_no l D cI A M (-2 : Int32) a_17 ha_17) hx hb hml hown hts (cwV 1 hts gX5_richest_X5_no rfl rfl rfl hd_X5_no ⟨Nat.le_of_ble_eq_true rfl, Nat.le_of_ble_eq_true rfl⟩) (va_recv hK hP (ci := 5) (q0 := 0) rfl cM_at0) (Ln.id rfl) hA hK hP hD hS rfl hl.1 rfl rfl (Nat.le_of_ble_eq_true rfl) dX5_richest_12 (fun H locs hP hD hS => ?_)
    replace hP : va_P D vwCl (cM cI A a_17.2) H := hP
    replace hD : va_D AA (cM cI A a_17.2) := hD
    exact hend (a_17.1, a_17.2) H locs _ _ hf hP hS dX5_richest_15

def f_X5_blameless (M : St) : Option (Int32) := (nm (((1 : Int32) <<< ((M 16 0) &&& 31)) - (1 : Int32)) fun v_1 => (lp (fun (nx11 : (Int32 × Int32) → Option (Int32)) (q11 : Int32 × Int32) => (if (M 16 1) ≤ q11.2 then (some q11.1) else (gi q11.2 8 (if (M 6 (q11.2).toNatClampNeg) ≤ 0 then (nm (q11.1 &&& (-1 : Int32)) fun v_5 => (nm (q11.2 + (1 : Int32)) fun v_6 => (nx11 (v_5, v_6)))) else (gi q11.2 8 (nm (q11.1 &&& (((1 : Int32) <<< ((M 7 (q11.2).toNatClampNeg) &&& 31)) ^^^ (-1 : Int32))) fun v_8 => (nm (q11.2 + (1 : Int32)) fun v_9 => (nx11 (v_8, v_9))))))))) 1000 (v_1, (0 : Int32))))
def rm_X5_blameless : Room := { frames := 0, cells := 0, slots := 0, locals := 0 }
theorem hd_X5_blameless : yX5_blameless.cls = RX5 ∧ yX5_blameless.cls ≠ "java/lang/invoke/MethodHandle" ∧ yX5_blameless.cls ≠ "java/lang/invoke/VarHandle" ∧ (parseMethodDescriptor yX5_blameless.desc).map (fun d => d.parameters.length) = some 0 := by decide +kernel
set_option maxRecDepth 100000 in
set_option maxHeartbeats 4000000 in
theorem c_X5_blameless (l : Launch) (D : va_G) (cI : ClassId) (A : Nat → Nat) (M : St) (r : Int32) (hf : f_X5_blameless M = some r) : Ct l yX5_blameless wsX5_blameless rm_X5_blameless D cI (cM cI A M) (cM cI A M) [.ref (A 0)] (some (.int r)) := by
  unfold f_X5_blameless at hf
  refine Ct.ofI (cc := cX5_blameless) (maxL := 3) (by decide +kernel) rfl (Nat.le_of_ble_eq_true rfl) ?_
  intro p e s m args below meth c AA Q H locs ls hx hb hml hown hts hA hK hP hD hS hl hend0
  have hend : ∀ (r1 : Int32) (H : Heap) (locs : List Loc) (pc : Nat) (ls : Array Slot), some r1 = some r → va_P D vwCl (cM cI A M) H → va_S AA s.heap H locs → decode cX5_blameless pc = .ok (.ireturn, 1) → W p l e rm_X5_blameless s m args below meth c H locs 0 0 Q (F0 m pc ls [.int r1]) := by
    intro r1 H locs pc ls e1 hP hS hd; cases e1; exact hend0 H locs pc ls hP hS hd
  clear hend0
  have hw5 : ∀ w ∈ wsX50, w ∈ wsX5_blameless := by decide +kernel
  have k28 := hts (.fieldLink RX5 28 "AnchorsForConfessionModel" "sins" "[I") (by decide +kernel)
  have k31 := hts (.fieldLink RX5 31 "AnchorsForConfessionModel" "aboard" "[I") (by decide +kernel)
  have k58 := hts (.fieldLink RX5 58 "AnchorsForConfessionModel" "ships" "I") (by decide +kernel)
  have k65 := hts (.fieldLink RX5 65 "AnchorsForConfessionModel" "men" "I") (by decide +kernel)
  replace hl : lv_has ls 3 [(0, .ref (A 0))] := hl
  refine lv_iconst (v := 1) hx hb dX5_blameless_0 (by decide) ?_
  refine lv_aload_n hx hb dX5_blameless_1 rfl (lv_at hl 0 rfl) ?_
  refine va_get (D := D) (ci := 5) (v := .int (M 16 0)) (C := RX5) (T := TX5) (N := 27) hx hb hts hw5 hown hK hP 0 cM_at0 rfl 8 (by decide) k58 (fun _ h9 => h9) rfl dX5_blameless_2 ?_
  refine lv_ishl hx hb dX5_blameless_5 ?_
  refine lv_iconst (v := 1) hx hb dX5_blameless_6 (by decide) ?_
  refine lv_isub hx hb dX5_blameless_7 ?_
  refine lv_topi (fun v_1 ev_1 => ?_)
  replace hf := nm_at ev_1 hf
  refine lv_istore_n (lv' := [(1, .int v_1), (0, .ref (A 0))]) hx hb dX5_blameless_8 rfl hl (by decide) rfl (fun ls hl => ?_)
  refine lv_iconst (v := 0) hx hb dX5_blameless_9 (by decide) ?_
  refine lv_istore_n (lv' := [(2, .int (0 : Int32)), (1, .int v_1), (0, .ref (A 0))]) hx hb dX5_blameless_10 rfl hl (by decide) rfl (fun ls hl => ?_)
  refine lp_ind (P := fun (q11 : Int32 × Int32) => ∀ (H : Heap) (locs : List Loc) (ls : Array Slot), va_P D vwCl (cM cI A M) H → va_D AA (cM cI A M) → va_S AA s.heap H locs → lv_has ls 3 [(0, .ref (A 0)), (1, .int q11.1), (2, .int q11.2)] → W p l e rm_X5_blameless s m args below meth c H locs 0 0 Q (F0 m 11 ls [])) hf ?_ H locs ls hP hD hS (lv_sub hl [2, 1, 0] rfl)
  clear hf hP hD hS hl
  intro nx11 ih11 q11 hf H locs ls hP hD hS hl
  refine lv_iload_n hx hb dX5_blameless_11 rfl (lv_at hl 2 rfl) ?_
  refine lv_aload_n hx hb dX5_blameless_12 rfl (lv_at hl 0 rfl) ?_
  refine va_get (D := D) (ci := 5) (v := .int (M 16 1)) (C := RX5) (T := TX5) (N := 27) hx hb hts hw5 hown hK hP 0 cM_at0 rfl 9 (by decide) k65 (fun _ h9 => h9) rfl dX5_blameless_13 ?_
  refine lv_icmp_ge (tgt := 51) hx hb dX5_blameless_16 (by decide) (fun c_2 => ?_) (fun c_2 => ?_)
  · replace hf := if_t c_2 hf
    refine lv_iload_n hx hb dX5_blameless_51 rfl (lv_at hl 1 rfl) ?_
    exact hend q11.1 H locs _ _ hf hP hS dX5_blameless_52
  · replace hf := if_f c_2 hf
    refine lv_iload_n hx hb dX5_blameless_19 rfl (lv_at hl 1 rfl) ?_
    refine lv_aload_n hx hb dX5_blameless_20 rfl (lv_at hl 0 rfl) ?_
    refine va_get (D := D) (ci := 5) (v := .ref (A 7)) (C := RX5) (T := TX5) (N := 27) hx hb hts hw5 hown hK hP 0 cM_at0 rfl 6 (by decide) k28 (fun _ h9 => h9) rfl dX5_blameless_21 ?_
    refine lv_iload_n hx hb dX5_blameless_24 rfl (lv_at hl 2 rfl) ?_
    obtain ⟨c_3, hf⟩ := gi_e hf
    refine va_iald hx hb hK hP 7 0 cM_at7 rfl c_3 dX5_blameless_25 ?_
    refine lv_if_le (tgt := 42) hx hb dX5_blameless_26 (by decide) (fun c_4 => ?_) (fun c_4 => ?_)
    · replace hf := if_t c_4 hf
      refine lv_iconst (v := -1) hx hb dX5_blameless_42 (by decide) ?_
      refine lv_iand hx hb dX5_blameless_43 ?_
      refine lv_topi (fun v_5 ev_5 => ?_)
      replace hf := nm_at ev_5 hf
      refine lv_istore_n (lv' := [(1, .int v_5), (0, .ref (A 0)), (2, .int q11.2)]) hx hb dX5_blameless_44 rfl hl (by decide) rfl (fun ls hl => ?_)
      obtain ⟨v_6, ev_6, hf⟩ := nm_e hf
      refine lv_iinc (v := v_6) (lv' := [(2, .int v_6), (1, .int v_5), (0, .ref (A 0))]) hx hb dX5_blameless_45 hl (k := 2) rfl (by rw [ev_6]; rfl) (by decide) rfl (fun ls hl => ?_)
      refine lv_goto (tgt := 11) hx hb dX5_blameless_48 (by decide) ?_
      exact ih11 (v_5, v_6) hf H locs ls hP hD hS (lv_sub hl [2, 1, 0] rfl)
    · replace hf := if_f c_4 hf
      refine lv_iconst (v := 1) hx hb dX5_blameless_29 (by decide) ?_
      refine lv_aload_n hx hb dX5_blameless_30 rfl (lv_at hl 0 rfl) ?_
      refine va_get (D := D) (ci := 5) (v := .ref (A 8)) (C := RX5) (T := TX5) (N := 27) hx hb hts hw5 hown hK hP 0 cM_at0 rfl 7 (by decide) k31 (fun _ h9 => h9) rfl dX5_blameless_31 ?_
      refine lv_iload_n hx hb dX5_blameless_34 rfl (lv_at hl 2 rfl) ?_
      obtain ⟨c_7, hf⟩ := gi_e hf
      refine va_iald hx hb hK hP 8 0 cM_at8 rfl c_7 dX5_blameless_35 ?_
      refine lv_ishl hx hb dX5_blameless_36 ?_
      refine lv_iconst (v := -1) hx hb dX5_blameless_37 (by decide) ?_
      refine lv_ixor hx hb dX5_blameless_38 ?_
      refine lv_goto (tgt := 43) hx hb dX5_blameless_39 (by decide) ?_
      refine lv_iand hx hb dX5_blameless_43 ?_
      refine lv_topi (fun v_8 ev_8 => ?_)
      replace hf := nm_at ev_8 hf
      refine lv_istore_n (lv' := [(1, .int v_8), (0, .ref (A 0)), (2, .int q11.2)]) hx hb dX5_blameless_44 rfl hl (by decide) rfl (fun ls hl => ?_)
      obtain ⟨v_9, ev_9, hf⟩ := nm_e hf
      refine lv_iinc (v := v_9) (lv' := [(2, .int v_9), (1, .int v_8), (0, .ref (A 0))]) hx hb dX5_blameless_45 hl (k := 2) rfl (by rw [ev_9]; rfl) (by decide) rfl (fun ls hl => ?_)
      refine lv_goto (tgt := 11) hx hb dX5_blameless_48 (by decide) ?_
      exact ih11 (v_8, v_9) hf H locs ls hP hD hS (lv_sub hl [2, 1, 0] rfl)

def f_X5_ebb (M : St) (p1 : Int32) : Option (Int32 × St) := (bd (f_X5_isShip M p1) fun a_1 => (if a_1 = 0 then (bd (f_X5_lower M (-1 : Int32)) fun a_3 => (some (a_3.1, a_3.2))) else (bd (f_X5_poolOn M p1 ((M 16 3) + (1 : Int32))) fun a_4 => (bd (f_X5_pool M p1) fun a_5 => (some ((a_4 - a_5), M))))))
def rm_X5_ebb : Room := { frames := 3, cells := 0, slots := 0, locals := 69 }
theorem hd_X5_ebb : yX5_ebb.cls = RX5 ∧ yX5_ebb.cls ≠ "java/lang/invoke/MethodHandle" ∧ yX5_ebb.cls ≠ "java/lang/invoke/VarHandle" ∧ (parseMethodDescriptor yX5_ebb.desc).map (fun d => d.parameters.length) = some 1 := by decide +kernel
set_option maxRecDepth 100000 in
set_option maxHeartbeats 4000000 in
theorem c_X5_ebb (l : Launch) (D : va_G) (cI : ClassId) (A : Nat → Nat) (M : St) (p1 : Int32) (r : Int32 × St) (hf : f_X5_ebb M p1 = some r) : Ct l yX5_ebb wsX5_ebb rm_X5_ebb D cI (cM cI A M) (cM cI A r.2) [.ref (A 0), .int p1] (some (.int r.1)) := by
  unfold f_X5_ebb at hf
  refine Ct.ofI (cc := cX5_ebb) (maxL := 2) (by decide +kernel) rfl (Nat.le_of_ble_eq_true rfl) ?_
  intro p e s m args below meth c AA Q H locs ls hx hb hml hown hts hA hK hP hD hS hl hend0
  have hend : ∀ (r1 : Int32 × St) (H : Heap) (locs : List Loc) (pc : Nat) (ls : Array Slot), some r1 = some r → va_P D vwCl (cM cI A r1.2) H → va_S AA s.heap H locs → decode cX5_ebb pc = .ok (.ireturn, 1) → W p l e rm_X5_ebb s m args below meth c H locs 0 0 Q (F0 m pc ls [.int r1.1]) := by
    intro r1 H locs pc ls e1 hP hS hd; cases e1; exact hend0 H locs pc ls hP hS hd
  clear hend0
  have hw5 : ∀ w ∈ wsX50, w ∈ wsX5_ebb := by decide +kernel
  have k110 := hts (.fieldLink RX5 110 "AnchorsForConfessionModel" "tide" "I") (by decide +kernel)
  replace hl : lv_has ls 2 [(0, .ref (A 0)), (1, .int p1)] := hl
  refine lv_aload_n hx hb dX5_ebb_0 rfl (lv_at hl 0 rfl) ?_
  refine lv_iload_n hx hb dX5_ebb_1 rfl (lv_at hl 1 rfl) ?_
  obtain ⟨a_1, ha_1, hf⟩ := bd_e hf
  refine Ct.callV (As := [.int p1]) (rest := []) (st1 := [.int a_1]) (c_X5_isShip l D cI A M p1 a_1 ha_1) hx hb hml hown hts (cwV 1 hts gX5_ebb_X5_isShip rfl rfl rfl hd_X5_isShip ⟨Nat.le_of_ble_eq_true rfl, Nat.le_of_ble_eq_true rfl⟩) (va_recv hK hP (ci := 5) (q0 := 0) rfl cM_at0) (Ln.id rfl) hA hK hP hD hS rfl hl.1 rfl rfl (Nat.le_of_ble_eq_true rfl) dX5_ebb_2 (fun H locs hP hD hS => ?_)
  refine lv_if_eq (tgt := 28) hx hb dX5_ebb_5 (by decide) (fun c_2 => ?_) (fun c_2 => ?_)
  · replace hf := if_t c_2 hf
    refine lv_aload_n hx hb dX5_ebb_28 rfl (lv_at hl 0 rfl) ?_
    refine lv_iconst (v := -1) hx hb dX5_ebb_29 (by decide) ?_
    obtain ⟨a_3, ha_3, hf⟩ := bd_e hf
    refine Ct.callV (As := [.int (-1 : Int32)]) (rest := []) (st1 := [.int a_3.1]) (c_X5_lower l D cI A M (-1 : Int32) a_3 ha_3) hx hb hml hown hts (cwV 1 hts gX5_ebb_X5_lower rfl rfl rfl hd_X5_lower ⟨Nat.le_of_ble_eq_true rfl, Nat.le_of_ble_eq_true rfl⟩) (va_recv hK hP (ci := 5) (q0 := 0) rfl cM_at0) (Ln.id rfl) hA hK hP hD hS rfl hl.1 rfl rfl (Nat.le_of_ble_eq_true rfl) dX5_ebb_30 (fun H locs hP hD hS => ?_)
    replace hP : va_P D vwCl (cM cI A a_3.2) H := hP
    replace hD : va_D AA (cM cI A a_3.2) := hD
    exact hend (a_3.1, a_3.2) H locs _ _ hf hP hS dX5_ebb_33
  · replace hf := if_f c_2 hf
    refine lv_aload_n hx hb dX5_ebb_8 rfl (lv_at hl 0 rfl) ?_
    refine lv_iload_n hx hb dX5_ebb_9 rfl (lv_at hl 1 rfl) ?_
    refine lv_aload_n hx hb dX5_ebb_10 rfl (lv_at hl 0 rfl) ?_
    refine va_get (D := D) (ci := 5) (v := .int (M 16 3)) (C := RX5) (T := TX5) (N := 27) hx hb hts hw5 hown hK hP 0 cM_at0 rfl 11 (by decide) k110 (fun _ h9 => h9) rfl dX5_ebb_11 ?_
    refine lv_iconst (v := 1) hx hb dX5_ebb_14 (by decide) ?_
    refine lv_iadd hx hb dX5_ebb_15 ?_
    obtain ⟨a_4, ha_4, hf⟩ := bd_e hf
    refine Ct.callV (As := [.int p1, .int ((M 16 3) + (1 : Int32))]) (rest := []) (st1 := [.int a_4]) (c_X5_poolOn l D cI A M p1 ((M 16 3) + (1 : Int32)) a_4 ha_4) hx hb hml hown hts (cwV 2 hts gX5_ebb_X5_poolOn rfl rfl rfl hd_X5_poolOn ⟨Nat.le_of_ble_eq_true rfl, Nat.le_of_ble_eq_true rfl⟩) (va_recv hK hP (ci := 5) (q0 := 0) rfl cM_at0) (Ln.id rfl) hA hK hP hD hS rfl hl.1 rfl rfl (Nat.le_of_ble_eq_true rfl) dX5_ebb_16 (fun H locs hP hD hS => ?_)
    refine lv_aload_n hx hb dX5_ebb_19 rfl (lv_at hl 0 rfl) ?_
    refine lv_iload_n hx hb dX5_ebb_20 rfl (lv_at hl 1 rfl) ?_
    obtain ⟨a_5, ha_5, hf⟩ := bd_e hf
    refine Ct.callV (As := [.int p1]) (rest := [.int a_4]) (st1 := [.int a_5, .int a_4]) (c_X5_pool l D cI A M p1 a_5 ha_5) hx hb hml hown hts (cwV 1 hts gX5_ebb_X5_pool rfl rfl rfl hd_X5_pool ⟨Nat.le_of_ble_eq_true rfl, Nat.le_of_ble_eq_true rfl⟩) (va_recv hK hP (ci := 5) (q0 := 0) rfl cM_at0) (Ln.id rfl) hA hK hP hD hS rfl hl.1 rfl rfl (Nat.le_of_ble_eq_true rfl) dX5_ebb_21 (fun H locs hP hD hS => ?_)
    refine lv_isub hx hb dX5_ebb_24 ?_
    refine lv_goto (tgt := 33) hx hb dX5_ebb_25 (by decide) ?_
    exact hend ((a_4 - a_5), M) H locs _ _ hf hP hS dX5_ebb_33

def f_X5_missing (M : St) : Option (Int32) := (lp (fun (nx4 : (Int32 × Int32) → Option (Int32)) (q4 : Int32 × Int32) => (if (M 16 0) ≤ q4.2 then (some q4.1) else (gi q4.2 5 (if (M 3 (q4.2).toNatClampNeg) = 0 then (bd (f_X5_lacks M q4.2) fun a_6 => (bd (f_X5_pool M q4.2) fun a_7 => (if a_6 ≤ a_7 then (nm (q4.1 + (0 : Int32)) fun v_9 => (nm (q4.2 + (1 : Int32)) fun v_10 => (nx4 (v_9, v_10)))) else (bd (f_X5_lacks M q4.2) fun a_11 => (bd (f_X5_pool M q4.2) fun a_12 => (nm (q4.1 + (a_11 - a_12)) fun v_13 => (nm (q4.2 + (1 : Int32)) fun v_14 => (nx4 (v_13, v_14))))))))) else (nm (q4.1 + (0 : Int32)) fun v_4 => (nm (q4.2 + (1 : Int32)) fun v_5 => (nx4 (v_4, v_5)))))))) 1000 ((0 : Int32), (0 : Int32)))
def rm_X5_missing : Room := { frames := 3, cells := 0, slots := 0, locals := 69 }
theorem hd_X5_missing : yX5_missing.cls = RX5 ∧ yX5_missing.cls ≠ "java/lang/invoke/MethodHandle" ∧ yX5_missing.cls ≠ "java/lang/invoke/VarHandle" ∧ (parseMethodDescriptor yX5_missing.desc).map (fun d => d.parameters.length) = some 0 := by decide +kernel
set_option maxRecDepth 100000 in
set_option maxHeartbeats 4000000 in
theorem c_X5_missing (l : Launch) (D : va_G) (cI : ClassId) (A : Nat → Nat) (M : St) (r : Int32) (hf : f_X5_missing M = some r) : Ct l yX5_missing wsX5_missing rm_X5_missing D cI (cM cI A M) (cM cI A M) [.ref (A 0)] (some (.int r)) := by
  unfold f_X5_missing at hf
  refine Ct.ofI (cc := cX5_missing) (maxL := 3) (by decide +kernel) rfl (Nat.le_of_ble_eq_true rfl) ?_
  intro p e s m args below meth c AA Q H locs ls hx hb hml hown hts hA hK hP hD hS hl hend0
  have hend : ∀ (r1 : Int32) (H : Heap) (locs : List Loc) (pc : Nat) (ls : Array Slot), some r1 = some r → va_P D vwCl (cM cI A M) H → va_S AA s.heap H locs → decode cX5_missing pc = .ok (.ireturn, 1) → W p l e rm_X5_missing s m args below meth c H locs 0 0 Q (F0 m pc ls [.int r1]) := by
    intro r1 H locs pc ls e1 hP hS hd; cases e1; exact hend0 H locs pc ls hP hS hd
  clear hend0
  have hw5 : ∀ w ∈ wsX50, w ∈ wsX5_missing := by decide +kernel
  have k19 := hts (.fieldLink RX5 19 "AnchorsForConfessionModel" "out" "[I") (by decide +kernel)
  have k58 := hts (.fieldLink RX5 58 "AnchorsForConfessionModel" "ships" "I") (by decide +kernel)
  replace hl : lv_has ls 3 [(0, .ref (A 0))] := hl
  refine lv_iconst (v := 0) hx hb dX5_missing_0 (by decide) ?_
  refine lv_istore_n (lv' := [(1, .int (0 : Int32)), (0, .ref (A 0))]) hx hb dX5_missing_1 rfl hl (by decide) rfl (fun ls hl => ?_)
  refine lv_iconst (v := 0) hx hb dX5_missing_2 (by decide) ?_
  refine lv_istore_n (lv' := [(2, .int (0 : Int32)), (1, .int (0 : Int32)), (0, .ref (A 0))]) hx hb dX5_missing_3 rfl hl (by decide) rfl (fun ls hl => ?_)
  refine lp_ind (P := fun (q4 : Int32 × Int32) => ∀ (H : Heap) (locs : List Loc) (ls : Array Slot), va_P D vwCl (cM cI A M) H → va_D AA (cM cI A M) → va_S AA s.heap H locs → lv_has ls 3 [(0, .ref (A 0)), (1, .int q4.1), (2, .int q4.2)] → W p l e rm_X5_missing s m args below meth c H locs 0 0 Q (F0 m 4 ls [])) hf ?_ H locs ls hP hD hS (lv_sub hl [2, 1, 0] rfl)
  clear hf hP hD hS hl
  intro nx4 ih4 q4 hf H locs ls hP hD hS hl
  refine lv_iload_n hx hb dX5_missing_4 rfl (lv_at hl 2 rfl) ?_
  refine lv_aload_n hx hb dX5_missing_5 rfl (lv_at hl 0 rfl) ?_
  refine va_get (D := D) (ci := 5) (v := .int (M 16 0)) (C := RX5) (T := TX5) (N := 27) hx hb hts hw5 hown hK hP 0 cM_at0 rfl 8 (by decide) k58 (fun _ h9 => h9) rfl dX5_missing_6 ?_
  refine lv_icmp_ge (tgt := 58) hx hb dX5_missing_9 (by decide) (fun c_1 => ?_) (fun c_1 => ?_)
  · replace hf := if_t c_1 hf
    refine lv_iload_n hx hb dX5_missing_58 rfl (lv_at hl 1 rfl) ?_
    exact hend q4.1 H locs _ _ hf hP hS dX5_missing_59
  · replace hf := if_f c_1 hf
    refine lv_iload_n hx hb dX5_missing_12 rfl (lv_at hl 1 rfl) ?_
    refine lv_aload_n hx hb dX5_missing_13 rfl (lv_at hl 0 rfl) ?_
    refine va_get (D := D) (ci := 5) (v := .ref (A 4)) (C := RX5) (T := TX5) (N := 27) hx hb hts hw5 hown hK hP 0 cM_at0 rfl 3 (by decide) k19 (fun _ h9 => h9) rfl dX5_missing_14 ?_
    refine lv_iload_n hx hb dX5_missing_17 rfl (lv_at hl 2 rfl) ?_
    obtain ⟨c_2, hf⟩ := gi_e hf
    refine va_iald hx hb hK hP 4 0 cM_at4 rfl c_2 dX5_missing_18 ?_
    refine lv_if_ne (tgt := 49) hx hb dX5_missing_19 (by decide) (fun c_3 => ?_) (fun c_3 => ?_)
    · replace hf := if_f c_3 hf
      refine lv_iconst (v := 0) hx hb dX5_missing_49 (by decide) ?_
      refine lv_iadd hx hb dX5_missing_50 ?_
      refine lv_topi (fun v_4 ev_4 => ?_)
      replace hf := nm_at ev_4 hf
      refine lv_istore_n (lv' := [(1, .int v_4), (0, .ref (A 0)), (2, .int q4.2)]) hx hb dX5_missing_51 rfl hl (by decide) rfl (fun ls hl => ?_)
      obtain ⟨v_5, ev_5, hf⟩ := nm_e hf
      refine lv_iinc (v := v_5) (lv' := [(2, .int v_5), (1, .int v_4), (0, .ref (A 0))]) hx hb dX5_missing_52 hl (k := 2) rfl (by rw [ev_5]; rfl) (by decide) rfl (fun ls hl => ?_)
      refine lv_goto (tgt := 4) hx hb dX5_missing_55 (by decide) ?_
      exact ih4 (v_4, v_5) hf H locs ls hP hD hS (lv_sub hl [2, 1, 0] rfl)
    · replace hf := if_t c_3 hf
      refine lv_aload_n hx hb dX5_missing_22 rfl (lv_at hl 0 rfl) ?_
      refine lv_iload_n hx hb dX5_missing_23 rfl (lv_at hl 2 rfl) ?_
      obtain ⟨a_6, ha_6, hf⟩ := bd_e hf
      refine Ct.callV (As := [.int q4.2]) (rest := [.int q4.1]) (st1 := [.int a_6, .int q4.1]) (c_X5_lacks l D cI A M q4.2 a_6 ha_6) hx hb hml hown hts (cwV 1 hts gX5_missing_X5_lacks rfl rfl rfl hd_X5_lacks ⟨Nat.le_of_ble_eq_true rfl, Nat.le_of_ble_eq_true rfl⟩) (va_recv hK hP (ci := 5) (q0 := 0) rfl cM_at0) (Ln.id rfl) hA hK hP hD hS rfl hl.1 rfl rfl (Nat.le_of_ble_eq_true rfl) dX5_missing_24 (fun H locs hP hD hS => ?_)
      refine lv_aload_n hx hb dX5_missing_27 rfl (lv_at hl 0 rfl) ?_
      refine lv_iload_n hx hb dX5_missing_28 rfl (lv_at hl 2 rfl) ?_
      obtain ⟨a_7, ha_7, hf⟩ := bd_e hf
      refine Ct.callV (As := [.int q4.2]) (rest := [.int a_6, .int q4.1]) (st1 := [.int a_7, .int a_6, .int q4.1]) (c_X5_pool l D cI A M q4.2 a_7 ha_7) hx hb hml hown hts (cwV 1 hts gX5_missing_X5_pool rfl rfl rfl hd_X5_pool ⟨Nat.le_of_ble_eq_true rfl, Nat.le_of_ble_eq_true rfl⟩) (va_recv hK hP (ci := 5) (q0 := 0) rfl cM_at0) (Ln.id rfl) hA hK hP hD hS rfl hl.1 rfl rfl (Nat.le_of_ble_eq_true rfl) dX5_missing_29 (fun H locs hP hD hS => ?_)
      refine lv_icmp_le (tgt := 49) hx hb dX5_missing_32 (by decide) (fun c_8 => ?_) (fun c_8 => ?_)
      · replace hf := if_t c_8 hf
        refine lv_iconst (v := 0) hx hb dX5_missing_49 (by decide) ?_
        refine lv_iadd hx hb dX5_missing_50 ?_
        refine lv_topi (fun v_9 ev_9 => ?_)
        replace hf := nm_at ev_9 hf
        refine lv_istore_n (lv' := [(1, .int v_9), (0, .ref (A 0)), (2, .int q4.2)]) hx hb dX5_missing_51 rfl hl (by decide) rfl (fun ls hl => ?_)
        obtain ⟨v_10, ev_10, hf⟩ := nm_e hf
        refine lv_iinc (v := v_10) (lv' := [(2, .int v_10), (1, .int v_9), (0, .ref (A 0))]) hx hb dX5_missing_52 hl (k := 2) rfl (by rw [ev_10]; rfl) (by decide) rfl (fun ls hl => ?_)
        refine lv_goto (tgt := 4) hx hb dX5_missing_55 (by decide) ?_
        exact ih4 (v_9, v_10) hf H locs ls hP hD hS (lv_sub hl [2, 1, 0] rfl)
      · replace hf := if_f c_8 hf
        refine lv_aload_n hx hb dX5_missing_35 rfl (lv_at hl 0 rfl) ?_
        refine lv_iload_n hx hb dX5_missing_36 rfl (lv_at hl 2 rfl) ?_
        obtain ⟨a_11, ha_11, hf⟩ := bd_e hf
        refine Ct.callV (As := [.int q4.2]) (rest := [.int q4.1]) (st1 := [.int a_11, .int q4.1]) (c_X5_lacks l D cI A M q4.2 a_11 ha_11) hx hb hml hown hts (cwV 1 hts gX5_missing_X5_lacks rfl rfl rfl hd_X5_lacks ⟨Nat.le_of_ble_eq_true rfl, Nat.le_of_ble_eq_true rfl⟩) (va_recv hK hP (ci := 5) (q0 := 0) rfl cM_at0) (Ln.id rfl) hA hK hP hD hS rfl hl.1 rfl rfl (Nat.le_of_ble_eq_true rfl) dX5_missing_37 (fun H locs hP hD hS => ?_)
        refine lv_aload_n hx hb dX5_missing_40 rfl (lv_at hl 0 rfl) ?_
        refine lv_iload_n hx hb dX5_missing_41 rfl (lv_at hl 2 rfl) ?_
        obtain ⟨a_12, ha_12, hf⟩ := bd_e hf
        refine Ct.callV (As := [.int q4.2]) (rest := [.int a_11, .int q4.1]) (st1 := [.int a_12, .int a_11, .int q4.1]) (c_X5_pool l D cI A M q4.2 a_12 ha_12) hx hb hml hown hts (cwV 1 hts gX5_missing_X5_pool rfl rfl rfl hd_X5_pool ⟨Nat.le_of_ble_eq_true rfl, Nat.le_of_ble_eq_true rfl⟩) (va_recv hK hP (ci := 5) (q0 := 0) rfl cM_at0) (Ln.id rfl) hA hK hP hD hS rfl hl.1 rfl rfl (Nat.le_of_ble_eq_true rfl) dX5_missing_42 (fun H locs hP hD hS => ?_)
        refine lv_isub hx hb dX5_missing_45 ?_
        refine lv_goto (tgt := 50) hx hb dX5_missing_46 (by decide) ?_
        refine lv_iadd hx hb dX5_missing_50 ?_
        refine lv_topi (fun v_13 ev_13 => ?_)
        replace hf := nm_at ev_13 hf
        refine lv_istore_n (lv' := [(1, .int v_13), (0, .ref (A 0)), (2, .int q4.2)]) hx hb dX5_missing_51 rfl hl (by decide) rfl (fun ls hl => ?_)
        obtain ⟨v_14, ev_14, hf⟩ := nm_e hf
        refine lv_iinc (v := v_14) (lv' := [(2, .int v_14), (1, .int v_13), (0, .ref (A 0))]) hx hb dX5_missing_52 hl (k := 2) rfl (by rw [ev_14]; rfl) (by decide) rfl (fun ls hl => ?_)
        refine lv_goto (tgt := 4) hx hb dX5_missing_55 (by decide) ?_
        exact ih4 (v_13, v_14) hf H locs ls hP hD hS (lv_sub hl [2, 1, 0] rfl)

def f_X5_toldBy (M : St) (p1 : Int32) (p2 : Int32) : Option (Int32 × St) := (if p2 = 0 then (some ((0 : Int32), M)) else (bd (f_X5_canTell M p1) fun a_2 => (if a_2 = 0 then (some ((0 : Int32), M)) else (bd (f_X5_tellsOne M p1) fun a_4 => (some ((1 : Int32), a_4.2))))))
def rm_X5_toldBy : Room := { frames := 4, cells := 0, slots := 0, locals := 88 }
theorem hd_X5_toldBy : yX5_toldBy.cls = RX5 ∧ yX5_toldBy.cls ≠ "java/lang/invoke/MethodHandle" ∧ yX5_toldBy.cls ≠ "java/lang/invoke/VarHandle" ∧ (parseMethodDescriptor yX5_toldBy.desc).map (fun d => d.parameters.length) = some 2 := by decide +kernel
set_option maxRecDepth 100000 in
set_option maxHeartbeats 4000000 in
theorem c_X5_toldBy (l : Launch) (D : va_G) (cI : ClassId) (A : Nat → Nat) (M : St) (p1 : Int32) (p2 : Int32) (r : Int32 × St) (hf : f_X5_toldBy M p1 p2 = some r) : Ct l yX5_toldBy wsX5_toldBy rm_X5_toldBy D cI (cM cI A M) (cM cI A r.2) [.ref (A 0), .int p1, .int p2] (some (.int r.1)) := by
  unfold f_X5_toldBy at hf
  refine Ct.ofI (cc := cX5_toldBy) (maxL := 3) (by decide +kernel) rfl (Nat.le_of_ble_eq_true rfl) ?_
  intro p e s m args below meth c AA Q H locs ls hx hb hml hown hts hA hK hP hD hS hl hend0
  have hend : ∀ (r1 : Int32 × St) (H : Heap) (locs : List Loc) (pc : Nat) (ls : Array Slot), some r1 = some r → va_P D vwCl (cM cI A r1.2) H → va_S AA s.heap H locs → decode cX5_toldBy pc = .ok (.ireturn, 1) → W p l e rm_X5_toldBy s m args below meth c H locs 0 0 Q (F0 m pc ls [.int r1.1]) := by
    intro r1 H locs pc ls e1 hP hS hd; cases e1; exact hend0 H locs pc ls hP hS hd
  clear hend0
  replace hl : lv_has ls 3 [(0, .ref (A 0)), (1, .int p1), (2, .int p2)] := hl
  refine lv_iload_n hx hb dX5_toldBy_0 rfl (lv_at hl 2 rfl) ?_
  refine lv_if_eq (tgt := 12) hx hb dX5_toldBy_1 (by decide) (fun c_1 => ?_) (fun c_1 => ?_)
  · replace hf := if_t c_1 hf
    refine lv_iconst (v := 0) hx hb dX5_toldBy_12 (by decide) ?_
    exact hend ((0 : Int32), M) H locs _ _ hf hP hS dX5_toldBy_13
  · replace hf := if_f c_1 hf
    refine lv_aload_n hx hb dX5_toldBy_4 rfl (lv_at hl 0 rfl) ?_
    refine lv_iload_n hx hb dX5_toldBy_5 rfl (lv_at hl 1 rfl) ?_
    obtain ⟨a_2, ha_2, hf⟩ := bd_e hf
    refine Ct.callV (As := [.int p1]) (rest := []) (st1 := [.int a_2]) (c_X5_canTell l D cI A M p1 a_2 ha_2) hx hb hml hown hts (cwV 1 hts gX5_toldBy_X5_canTell rfl rfl rfl hd_X5_canTell ⟨Nat.le_of_ble_eq_true rfl, Nat.le_of_ble_eq_true rfl⟩) (va_recv hK hP (ci := 5) (q0 := 0) rfl cM_at0) (Ln.id rfl) hA hK hP hD hS rfl hl.1 rfl rfl (Nat.le_of_ble_eq_true rfl) dX5_toldBy_6 (fun H locs hP hD hS => ?_)
    refine lv_if_ne (tgt := 14) hx hb dX5_toldBy_9 (by decide) (fun c_3 => ?_) (fun c_3 => ?_)
    · replace hf := if_f c_3 hf
      refine lv_aload_n hx hb dX5_toldBy_14 rfl (lv_at hl 0 rfl) ?_
      refine lv_iload_n hx hb dX5_toldBy_15 rfl (lv_at hl 1 rfl) ?_
      obtain ⟨a_4, ha_4, hf⟩ := bd_e hf
      refine Ct.callV (As := [.int p1]) (rest := []) (st1 := [.int a_4.1]) (c_X5_tellsOne l D cI A M p1 a_4 ha_4) hx hb hml hown hts (cwV 1 hts gX5_toldBy_X5_tellsOne rfl rfl rfl hd_X5_tellsOne ⟨Nat.le_of_ble_eq_true rfl, Nat.le_of_ble_eq_true rfl⟩) (va_recv hK hP (ci := 5) (q0 := 0) rfl cM_at0) (Ln.id rfl) hA hK hP hD hS rfl hl.1 rfl rfl (Nat.le_of_ble_eq_true rfl) dX5_toldBy_16 (fun H locs hP hD hS => ?_)
      replace hP : va_P D vwCl (cM cI A a_4.2) H := hP
      replace hD : va_D AA (cM cI A a_4.2) := hD
      refine lv_pop hx hb dX5_toldBy_19 rfl ?_
      refine lv_iconst (v := 1) hx hb dX5_toldBy_20 (by decide) ?_
      exact hend ((1 : Int32), a_4.2) H locs _ _ hf hP hS dX5_toldBy_21
    · replace hf := if_t c_3 hf
      refine lv_iconst (v := 0) hx hb dX5_toldBy_12 (by decide) ?_
      exact hend ((0 : Int32), M) H locs _ _ hf hP hS dX5_toldBy_13

def f_X5_findGets (M : St) (p1 : Int32) (p2 : Int32) : Option (St) := (lp (fun (nx2 : (Int32 × St) → Option (St)) (q2 : Int32 × St) => (if (4 : Int32) ≤ q2.1 then (some q2.2) else (bd (f_X5_thinks q2.2) fun a_2 => (bd (f_X5_toldBy a_2 p1 (q2.1 / (2 : Int32))) fun a_4 => (bd (f_X5_toldBy a_4.2 p2 (q2.1 - q2.1 / (2 : Int32) * (2 : Int32))) fun a_6 => (gi p1 8 (gi (a_6.2 7 (p1).toNatClampNeg) 5 (if (a_6.2 3 ((a_6.2 7 (p1).toNatClampNeg)).toNatClampNeg) ≤ 0 then (gi ((2 : Int32) * q2.1) 8 (nm (su a_6.2 14 (((2 : Int32) * q2.1)).toNatClampNeg ((0 : Int32) - a_4.1)) fun h_11 => (gi p2 8 (gi (h_11 7 (p2).toNatClampNeg) 5 (if (h_11 3 ((h_11 7 (p2).toNatClampNeg)).toNatClampNeg) ≤ 0 then (gi (((2 : Int32) * q2.1) + (1 : Int32)) 8 (nm (su h_11 14 ((((2 : Int32) * q2.1) + (1 : Int32))).toNatClampNeg ((0 : Int32) - a_6.1)) fun h_16 => (bd (f_X5_forgets h_16) fun a_17 => (nm (q2.1 + (1 : Int32)) fun v_18 => (nx2 (v_18, a_17)))))) else (gi (((2 : Int32) * q2.1) + (1 : Int32)) 8 (nm (su h_11 14 ((((2 : Int32) * q2.1) + (1 : Int32))).toNatClampNeg ((3 : Int32) - a_6.1)) fun h_20 => (bd (f_X5_forgets h_20) fun a_21 => (nm (q2.1 + (1 : Int32)) fun v_22 => (nx2 (v_22, a_21))))))))))) else (gi ((2 : Int32) * q2.1) 8 (nm (su a_6.2 14 (((2 : Int32) * q2.1)).toNatClampNeg ((3 : Int32) - a_4.1)) fun h_24 => (gi p2 8 (gi (h_24 7 (p2).toNatClampNeg) 5 (if (h_24 3 ((h_24 7 (p2).toNatClampNeg)).toNatClampNeg) ≤ 0 then (gi (((2 : Int32) * q2.1) + (1 : Int32)) 8 (nm (su h_24 14 ((((2 : Int32) * q2.1) + (1 : Int32))).toNatClampNeg ((0 : Int32) - a_6.1)) fun h_29 => (bd (f_X5_forgets h_29) fun a_30 => (nm (q2.1 + (1 : Int32)) fun v_31 => (nx2 (v_31, a_30)))))) else (gi (((2 : Int32) * q2.1) + (1 : Int32)) 8 (nm (su h_24 14 ((((2 : Int32) * q2.1) + (1 : Int32))).toNatClampNeg ((3 : Int32) - a_6.1)) fun h_33 => (bd (f_X5_forgets h_33) fun a_34 => (nm (q2.1 + (1 : Int32)) fun v_35 => (nx2 (v_35, a_34))))))))))))))))))) 1000 ((0 : Int32), M))
def rm_X5_findGets : Room := { frames := 5, cells := 0, slots := 0, locals := 110 }
theorem hd_X5_findGets : yX5_findGets.cls = RX5 ∧ yX5_findGets.cls ≠ "java/lang/invoke/MethodHandle" ∧ yX5_findGets.cls ≠ "java/lang/invoke/VarHandle" ∧ (parseMethodDescriptor yX5_findGets.desc).map (fun d => d.parameters.length) = some 2 := by decide +kernel
set_option maxRecDepth 100000 in
set_option maxHeartbeats 4000000 in
theorem c_X5_findGets (l : Launch) (D : va_G) (cI : ClassId) (A : Nat → Nat) (M : St) (p1 : Int32) (p2 : Int32) (r : St) (hf : f_X5_findGets M p1 p2 = some r) : Ct l yX5_findGets wsX5_findGets rm_X5_findGets D cI (cM cI A M) (cM cI A r) [.ref (A 0), .int p1, .int p2] none := by
  unfold f_X5_findGets at hf
  refine Ct.ofV (cc := cX5_findGets) (maxL := 6) (by decide +kernel) rfl (Nat.le_of_ble_eq_true rfl) ?_
  intro p e s m args below meth c AA Q H locs ls hx hb hml hown hts hA hK hP hD hS hl hend0
  have hend : ∀ (r1 : St) (H : Heap) (locs : List Loc) (pc : Nat) (ls : Array Slot), some r1 = some r → va_P D vwCl (cM cI A r1) H → va_S AA s.heap H locs → decode cX5_findGets pc = .ok (.return_, 1) → W p l e rm_X5_findGets s m args below meth c H locs 0 0 Q (F0 m pc ls []) := by
    intro r1 H locs pc ls e1 hP hS hd; cases e1; exact hend0 H locs pc ls hP hS hd
  clear hend0
  have hw5 : ∀ w ∈ wsX50, w ∈ wsX5_findGets := by decide +kernel
  have k19 := hts (.fieldLink RX5 19 "AnchorsForConfessionModel" "out" "[I") (by decide +kernel)
  have k31 := hts (.fieldLink RX5 31 "AnchorsForConfessionModel" "aboard" "[I") (by decide +kernel)
  have k52 := hts (.fieldLink RX5 52 "AnchorsForConfessionModel" "gets" "[I") (by decide +kernel)
  replace hl : lv_has ls 6 [(0, .ref (A 0)), (1, .int p1), (2, .int p2)] := hl
  refine lv_iconst (v := 0) hx hb dX5_findGets_0 (by decide) ?_
  refine lv_istore_n (lv' := [(3, .int (0 : Int32)), (0, .ref (A 0)), (1, .int p1), (2, .int p2)]) hx hb dX5_findGets_1 rfl hl (by decide) rfl (fun ls hl => ?_)
  refine lp_ind (P := fun (q2 : Int32 × St) => ∀ (H : Heap) (locs : List Loc) (ls : Array Slot), va_P D vwCl (cM cI A q2.2) H → va_D AA (cM cI A q2.2) → va_S AA s.heap H locs → lv_has ls 6 [(0, .ref (A 0)), (1, .int p1), (2, .int p2), (3, .int q2.1)] → W p l e rm_X5_findGets s m args below meth c H locs 0 0 Q (F0 m 2 ls [])) hf ?_ H locs ls hP hD hS (lv_sub hl [1, 2, 3, 0] rfl)
  clear hf hP hD hS hl
  intro nx2 ih2 q2 hf H locs ls hP hD hS hl
  refine lv_iload_n hx hb dX5_findGets_2 rfl (lv_at hl 3 rfl) ?_
  refine lv_iconst (v := 4) hx hb dX5_findGets_3 (by decide) ?_
  refine lv_icmp_ge (tgt := 103) hx hb dX5_findGets_4 (by decide) (fun c_1 => ?_) (fun c_1 => ?_)
  · replace hf := if_t c_1 hf
    exact hend q2.2 H locs _ _ hf hP hS dX5_findGets_103
  · replace hf := if_f c_1 hf
    refine lv_aload_n hx hb dX5_findGets_7 rfl (lv_at hl 0 rfl) ?_
    obtain ⟨a_2, ha_2, hf⟩ := bd_e hf
    refine Ct.callV (As := []) (rest := []) (st1 := []) (c_X5_thinks l D cI A q2.2 a_2 ha_2) hx hb hml hown hts (cwV 0 hts gX5_findGets_X5_thinks rfl rfl rfl hd_X5_thinks ⟨Nat.le_of_ble_eq_true rfl, Nat.le_of_ble_eq_true rfl⟩) (va_recv hK hP (ci := 5) (q0 := 0) rfl cM_at0) (Ln.id rfl) hA hK hP hD hS rfl hl.1 rfl rfl (Nat.le_of_ble_eq_true rfl) dX5_findGets_8 (fun H locs hP hD hS => ?_)
    replace hP : va_P D vwCl (cM cI A a_2) H := hP
    replace hD : va_D AA (cM cI A a_2) := hD
    refine lv_aload_n hx hb dX5_findGets_11 rfl (lv_at hl 0 rfl) ?_
    refine lv_iload_n hx hb dX5_findGets_12 rfl (lv_at hl 1 rfl) ?_
    refine lv_iload_n hx hb dX5_findGets_13 rfl (lv_at hl 3 rfl) ?_
    refine lv_iconst (v := 2) hx hb dX5_findGets_14 (by decide) ?_
    refine lv_idiv hx hb dX5_findGets_15 (by decide) ?_
    obtain ⟨a_4, ha_4, hf⟩ := bd_e hf
    refine Ct.callV (As := [.int p1, .int (q2.1 / (2 : Int32))]) (rest := []) (st1 := [.int a_4.1]) (c_X5_toldBy l D cI A a_2 p1 (q2.1 / (2 : Int32)) a_4 ha_4) hx hb hml hown hts (cwV 2 hts gX5_findGets_X5_toldBy rfl rfl rfl hd_X5_toldBy ⟨Nat.le_of_ble_eq_true rfl, Nat.le_of_ble_eq_true rfl⟩) (va_recv hK hP (ci := 5) (q0 := 0) rfl cM_at0) (Ln.id rfl) hA hK hP hD hS rfl hl.1 rfl rfl (Nat.le_of_ble_eq_true rfl) dX5_findGets_16 (fun H locs hP hD hS => ?_)
    replace hP : va_P D vwCl (cM cI A a_4.2) H := hP
    replace hD : va_D AA (cM cI A a_4.2) := hD
    refine lv_istore (lv' := [(4, .int a_4.1), (0, .ref (A 0)), (1, .int p1), (2, .int p2), (3, .int q2.1)]) hx hb dX5_findGets_19 hl (by decide) rfl (fun ls hl => ?_)
    refine lv_aload_n hx hb dX5_findGets_21 rfl (lv_at hl 1 rfl) ?_
    refine lv_iload_n hx hb dX5_findGets_22 rfl (lv_at hl 3 rfl) ?_
    refine lv_iload_n hx hb dX5_findGets_23 rfl (lv_at hl 4 rfl) ?_
    refine lv_iconst (v := 2) hx hb dX5_findGets_24 (by decide) ?_
    refine lv_irem hx hb dX5_findGets_25 (by decide) ?_
    obtain ⟨a_6, ha_6, hf⟩ := bd_e hf
    refine Ct.callV (As := [.int p2, .int (q2.1 - q2.1 / (2 : Int32) * (2 : Int32))]) (rest := []) (st1 := [.int a_6.1]) (c_X5_toldBy l D cI A a_4.2 p2 (q2.1 - q2.1 / (2 : Int32) * (2 : Int32)) a_6 ha_6) hx hb hml hown hts (cwV 2 hts gX5_findGets_X5_toldBy rfl rfl rfl hd_X5_toldBy ⟨Nat.le_of_ble_eq_true rfl, Nat.le_of_ble_eq_true rfl⟩) (va_recv hK hP (ci := 5) (q0 := 0) rfl cM_at0) (Ln.id rfl) hA hK hP hD hS rfl hl.1 rfl rfl (Nat.le_of_ble_eq_true rfl) dX5_findGets_26 (fun H locs hP hD hS => ?_)
    replace hP : va_P D vwCl (cM cI A a_6.2) H := hP
    replace hD : va_D AA (cM cI A a_6.2) := hD
    refine lv_istore (lv' := [(5, .int a_6.1), (4, .int a_4.1), (0, .ref (A 0)), (1, .int p1), (2, .int p2), (3, .int q2.1)]) hx hb dX5_findGets_29 hl (by decide) rfl (fun ls hl => ?_)
    refine lv_aload_n hx hb dX5_findGets_31 rfl (lv_at hl 2 rfl) ?_
    refine va_get (D := D) (ci := 5) (v := .ref (A 15)) (C := RX5) (T := TX5) (N := 27) hx hb hts hw5 hown hK hP 0 cM_at0 rfl 24 (by decide) k52 (fun _ h9 => h9) rfl dX5_findGets_32 ?_
    refine lv_iconst (v := 2) hx hb dX5_findGets_35 (by decide) ?_
    refine lv_iload_n hx hb dX5_findGets_36 rfl (lv_at hl 5 rfl) ?_
    refine lv_imul hx hb dX5_findGets_37 ?_
    refine lv_aload_n hx hb dX5_findGets_38 rfl (lv_at hl 2 rfl) ?_
    refine va_get (D := D) (ci := 5) (v := .ref (A 4)) (C := RX5) (T := TX5) (N := 27) hx hb hts hw5 hown hK hP 0 cM_at0 rfl 3 (by decide) k19 (fun _ h9 => h9) rfl dX5_findGets_39 ?_
    refine lv_aload_n hx hb dX5_findGets_42 rfl (lv_at hl 2 rfl) ?_
    refine va_get (D := D) (ci := 5) (v := .ref (A 8)) (C := RX5) (T := TX5) (N := 27) hx hb hts hw5 hown hK hP 0 cM_at0 rfl 7 (by decide) k31 (fun _ h9 => h9) rfl dX5_findGets_43 ?_
    refine lv_iload_n hx hb dX5_findGets_46 rfl (lv_at hl 3 rfl) ?_
    obtain ⟨c_7, hf⟩ := gi_e hf
    refine va_iald hx hb hK hP 8 0 cM_at8 rfl c_7 dX5_findGets_47 ?_
    obtain ⟨c_8, hf⟩ := gi_e hf
    refine va_iald hx hb hK hP 4 0 cM_at4 rfl c_8 dX5_findGets_48 ?_
    refine lv_if_le (tgt := 56) hx hb dX5_findGets_49 (by decide) (fun c_9 => ?_) (fun c_9 => ?_)
    · replace hf := if_t c_9 hf
      refine lv_iconst (v := 0) hx hb dX5_findGets_56 (by decide) ?_
      refine lv_iload hx hb dX5_findGets_57 (lv_at hl 1 rfl) ?_
      refine lv_isub hx hb dX5_findGets_59 ?_
      obtain ⟨c_10, hf⟩ := gi_e hf
      refine va_iast hx hb hK hP hD hS 15 0 cM_at15 rfl c_10 dX5_findGets_60 (fun H locs hP hD hS => ?_)
      obtain ⟨h_11, eh_11, hf⟩ := nm_e hf
      rw [cM_su15, ← eh_11] at hP hD
      refine lv_aload_n hx hb dX5_findGets_61 rfl (lv_at hl 2 rfl) ?_
      refine va_get (D := D) (ci := 5) (v := .ref (A 15)) (C := RX5) (T := TX5) (N := 27) hx hb hts hw5 hown hK hP 0 cM_at0 rfl 24 (by decide) k52 (fun _ h9 => h9) rfl dX5_findGets_62 ?_
      refine lv_iconst (v := 2) hx hb dX5_findGets_65 (by decide) ?_
      refine lv_iload_n hx hb dX5_findGets_66 rfl (lv_at hl 5 rfl) ?_
      refine lv_imul hx hb dX5_findGets_67 ?_
      refine lv_iconst (v := 1) hx hb dX5_findGets_68 (by decide) ?_
      refine lv_iadd hx hb dX5_findGets_69 ?_
      refine lv_aload_n hx hb dX5_findGets_70 rfl (lv_at hl 2 rfl) ?_
      refine va_get (D := D) (ci := 5) (v := .ref (A 4)) (C := RX5) (T := TX5) (N := 27) hx hb hts hw5 hown hK hP 0 cM_at0 rfl 3 (by decide) k19 (fun _ h9 => h9) rfl dX5_findGets_71 ?_
      refine lv_aload_n hx hb dX5_findGets_74 rfl (lv_at hl 2 rfl) ?_
      refine va_get (D := D) (ci := 5) (v := .ref (A 8)) (C := RX5) (T := TX5) (N := 27) hx hb hts hw5 hown hK hP 0 cM_at0 rfl 7 (by decide) k31 (fun _ h9 => h9) rfl dX5_findGets_75 ?_
      refine lv_iload_n hx hb dX5_findGets_78 rfl (lv_at hl 4 rfl) ?_
      obtain ⟨c_12, hf⟩ := gi_e hf
      refine va_iald hx hb hK hP 8 0 cM_at8 rfl c_12 dX5_findGets_79 ?_
      obtain ⟨c_13, hf⟩ := gi_e hf
      refine va_iald hx hb hK hP 4 0 cM_at4 rfl c_13 dX5_findGets_80 ?_
      refine lv_if_le (tgt := 88) hx hb dX5_findGets_81 (by decide) (fun c_14 => ?_) (fun c_14 => ?_)
      · replace hf := if_t c_14 hf
        refine lv_iconst (v := 0) hx hb dX5_findGets_88 (by decide) ?_
        refine lv_iload hx hb dX5_findGets_89 (lv_at hl 0 rfl) ?_
        refine lv_isub hx hb dX5_findGets_91 ?_
        obtain ⟨c_15, hf⟩ := gi_e hf
        refine va_iast hx hb hK hP hD hS 15 0 cM_at15 rfl c_15 dX5_findGets_92 (fun H locs hP hD hS => ?_)
        obtain ⟨h_16, eh_16, hf⟩ := nm_e hf
        rw [cM_su15, ← eh_16] at hP hD
        refine lv_aload_n hx hb dX5_findGets_93 rfl (lv_at hl 2 rfl) ?_
        obtain ⟨a_17, ha_17, hf⟩ := bd_e hf
        refine Ct.callV (As := []) (rest := []) (st1 := []) (c_X5_forgets l D cI A h_16 a_17 ha_17) hx hb hml hown hts (cwV 0 hts gX5_findGets_X5_forgets rfl rfl rfl hd_X5_forgets ⟨Nat.le_of_ble_eq_true rfl, Nat.le_of_ble_eq_true rfl⟩) (va_recv hK hP (ci := 5) (q0 := 0) rfl cM_at0) (Ln.id rfl) hA hK hP hD hS rfl hl.1 rfl rfl (Nat.le_of_ble_eq_true rfl) dX5_findGets_94 (fun H locs hP hD hS => ?_)
        replace hP : va_P D vwCl (cM cI A a_17) H := hP
        replace hD : va_D AA (cM cI A a_17) := hD
        obtain ⟨v_18, ev_18, hf⟩ := nm_e hf
        refine lv_iinc (v := v_18) (lv' := [(3, .int v_18), (5, .int a_6.1), (4, .int a_4.1), (0, .ref (A 0)), (1, .int p1), (2, .int p2)]) hx hb dX5_findGets_97 hl (k := 5) rfl (by rw [ev_18]; rfl) (by decide) rfl (fun ls hl => ?_)
        refine lv_goto (tgt := 2) hx hb dX5_findGets_100 (by decide) ?_
        exact ih2 (v_18, a_17) hf H locs ls hP hD hS (lv_sub hl [3, 4, 5, 0] rfl)
      · replace hf := if_f c_14 hf
        refine lv_iconst (v := 3) hx hb dX5_findGets_84 (by decide) ?_
        refine lv_goto (tgt := 89) hx hb dX5_findGets_85 (by decide) ?_
        refine lv_iload hx hb dX5_findGets_89 (lv_at hl 0 rfl) ?_
        refine lv_isub hx hb dX5_findGets_91 ?_
        obtain ⟨c_19, hf⟩ := gi_e hf
        refine va_iast hx hb hK hP hD hS 15 0 cM_at15 rfl c_19 dX5_findGets_92 (fun H locs hP hD hS => ?_)
        obtain ⟨h_20, eh_20, hf⟩ := nm_e hf
        rw [cM_su15, ← eh_20] at hP hD
        refine lv_aload_n hx hb dX5_findGets_93 rfl (lv_at hl 2 rfl) ?_
        obtain ⟨a_21, ha_21, hf⟩ := bd_e hf
        refine Ct.callV (As := []) (rest := []) (st1 := []) (c_X5_forgets l D cI A h_20 a_21 ha_21) hx hb hml hown hts (cwV 0 hts gX5_findGets_X5_forgets rfl rfl rfl hd_X5_forgets ⟨Nat.le_of_ble_eq_true rfl, Nat.le_of_ble_eq_true rfl⟩) (va_recv hK hP (ci := 5) (q0 := 0) rfl cM_at0) (Ln.id rfl) hA hK hP hD hS rfl hl.1 rfl rfl (Nat.le_of_ble_eq_true rfl) dX5_findGets_94 (fun H locs hP hD hS => ?_)
        replace hP : va_P D vwCl (cM cI A a_21) H := hP
        replace hD : va_D AA (cM cI A a_21) := hD
        obtain ⟨v_22, ev_22, hf⟩ := nm_e hf
        refine lv_iinc (v := v_22) (lv' := [(3, .int v_22), (5, .int a_6.1), (4, .int a_4.1), (0, .ref (A 0)), (1, .int p1), (2, .int p2)]) hx hb dX5_findGets_97 hl (k := 5) rfl (by rw [ev_22]; rfl) (by decide) rfl (fun ls hl => ?_)
        refine lv_goto (tgt := 2) hx hb dX5_findGets_100 (by decide) ?_
        exact ih2 (v_22, a_21) hf H locs ls hP hD hS (lv_sub hl [3, 4, 5, 0] rfl)
    · replace hf := if_f c_9 hf
      refine lv_iconst (v := 3) hx hb dX5_findGets_52 (by decide) ?_
      refine lv_goto (tgt := 57) hx hb dX5_findGets_53 (by decide) ?_
      refine lv_iload hx hb dX5_findGets_57 (lv_at hl 1 rfl) ?_
      refine lv_isub hx hb dX5_findGets_59 ?_
      obtain ⟨c_23, hf⟩ := gi_e hf
      refine va_iast hx hb hK hP hD hS 15 0 cM_at15 rfl c_23 dX5_findGets_60 (fun H locs hP hD hS => ?_)
      obtain ⟨h_24, eh_24, hf⟩ := nm_e hf
      rw [cM_su15, ← eh_24] at hP hD
      refine lv_aload_n hx hb dX5_findGets_61 rfl (lv_at hl 2 rfl) ?_
      refine va_get (D := D) (ci := 5) (v := .ref (A 15)) (C := RX5) (T := TX5) (N := 27) hx hb hts hw5 hown hK hP 0 cM_at0 rfl 24 (by decide) k52 (fun _ h9 => h9) rfl dX5_findGets_62 ?_
      refine lv_iconst (v := 2) hx hb dX5_findGets_65 (by decide) ?_
      refine lv_iload_n hx hb dX5_findGets_66 rfl (lv_at hl 5 rfl) ?_
      refine lv_imul hx hb dX5_findGets_67 ?_
      refine lv_iconst (v := 1) hx hb dX5_findGets_68 (by decide) ?_
      refine lv_iadd hx hb dX5_findGets_69 ?_
      refine lv_aload_n hx hb dX5_findGets_70 rfl (lv_at hl 2 rfl) ?_
      refine va_get (D := D) (ci := 5) (v := .ref (A 4)) (C := RX5) (T := TX5) (N := 27) hx hb hts hw5 hown hK hP 0 cM_at0 rfl 3 (by decide) k19 (fun _ h9 => h9) rfl dX5_findGets_71 ?_
      refine lv_aload_n hx hb dX5_findGets_74 rfl (lv_at hl 2 rfl) ?_
      refine va_get (D := D) (ci := 5) (v := .ref (A 8)) (C := RX5) (T := TX5) (N := 27) hx hb hts hw5 hown hK hP 0 cM_at0 rfl 7 (by decide) k31 (fun _ h9 => h9) rfl dX5_findGets_75 ?_
      refine lv_iload_n hx hb dX5_findGets_78 rfl (lv_at hl 4 rfl) ?_
      obtain ⟨c_25, hf⟩ := gi_e hf
      refine va_iald hx hb hK hP 8 0 cM_at8 rfl c_25 dX5_findGets_79 ?_
      obtain ⟨c_26, hf⟩ := gi_e hf
      refine va_iald hx hb hK hP 4 0 cM_at4 rfl c_26 dX5_findGets_80 ?_
      refine lv_if_le (tgt := 88) hx hb dX5_findGets_81 (by decide) (fun c_27 => ?_) (fun c_27 => ?_)
      · replace hf := if_t c_27 hf
        refine lv_iconst (v := 0) hx hb dX5_findGets_88 (by decide) ?_
        refine lv_iload hx hb dX5_findGets_89 (lv_at hl 0 rfl) ?_
        refine lv_isub hx hb dX5_findGets_91 ?_
        obtain ⟨c_28, hf⟩ := gi_e hf
        refine va_iast hx hb hK hP hD hS 15 0 cM_at15 rfl c_28 dX5_findGets_92 (fun H locs hP hD hS => ?_)
        obtain ⟨h_29, eh_29, hf⟩ := nm_e hf
        rw [cM_su15, ← eh_29] at hP hD
        refine lv_aload_n hx hb dX5_findGets_93 rfl (lv_at hl 2 rfl) ?_
        obtain ⟨a_30, ha_30, hf⟩ := bd_e hf
        refine Ct.callV (As := []) (rest := []) (st1 := []) (c_X5_forgets l D cI A h_29 a_30 ha_30) hx hb hml hown hts (cwV 0 hts gX5_findGets_X5_forgets rfl rfl rfl hd_X5_forgets ⟨Nat.le_of_ble_eq_true rfl, Nat.le_of_ble_eq_true rfl⟩) (va_recv hK hP (ci := 5) (q0 := 0) rfl cM_at0) (Ln.id rfl) hA hK hP hD hS rfl hl.1 rfl rfl (Nat.le_of_ble_eq_true rfl) dX5_findGets_94 (fun H locs hP hD hS => ?_)
        replace hP : va_P D vwCl (cM cI A a_30) H := hP
        replace hD : va_D AA (cM cI A a_30) := hD
        obtain ⟨v_31, ev_31, hf⟩ := nm_e hf
        refine lv_iinc (v := v_31) (lv' := [(3, .int v_31), (5, .int a_6.1), (4, .int a_4.1), (0, .ref (A 0)), (1, .int p1), (2, .int p2)]) hx hb dX5_findGets_97 hl (k := 5) rfl (by rw [ev_31]; rfl) (by decide) rfl (fun ls hl => ?_)
        refine lv_goto (tgt := 2) hx hb dX5_findGets_100 (by decide) ?_
        exact ih2 (v_31, a_30) hf H locs ls hP hD hS (lv_sub hl [3, 4, 5, 0] rfl)
      · replace hf := if_f c_27 hf
        refine lv_iconst (v := 3) hx hb dX5_findGets_84 (by decide) ?_
        refine lv_goto (tgt := 89) hx hb dX5_findGets_85 (by decide) ?_
        refine lv_iload hx hb dX5_findGets_89 (lv_at hl 0 rfl) ?_
        refine lv_isub hx hb dX5_findGets_91 ?_
        obtain ⟨c_32, hf⟩ := gi_e hf
        refine va_iast hx hb hK hP hD hS 15 0 cM_at15 rfl c_32 dX5_findGets_92 (fun H locs hP hD hS => ?_)
        obtain ⟨h_33, eh_33, hf⟩ := nm_e hf
        rw [cM_su15, ← eh_33] at hP hD
        refine lv_aload_n hx hb dX5_findGets_93 rfl (lv_at hl 2 rfl) ?_
        obtain ⟨a_34, ha_34, hf⟩ := bd_e hf
        refine Ct.callV (As := []) (rest := []) (st1 := []) (c_X5_forgets l D cI A h_33 a_34 ha_34) hx hb hml hown hts (cwV 0 hts gX5_findGets_X5_forgets rfl rfl rfl hd_X5_forgets ⟨Nat.le_of_ble_eq_true rfl, Nat.le_of_ble_eq_true rfl⟩) (va_recv hK hP (ci := 5) (q0 := 0) rfl cM_at0) (Ln.id rfl) hA hK hP hD hS rfl hl.1 rfl rfl (Nat.le_of_ble_eq_true rfl) dX5_findGets_94 (fun H locs hP hD hS => ?_)
        replace hP : va_P D vwCl (cM cI A a_34) H := hP
        replace hD : va_D AA (cM cI A a_34) := hD
        obtain ⟨v_35, ev_35, hf⟩ := nm_e hf
        refine lv_iinc (v := v_35) (lv' := [(3, .int v_35), (5, .int a_6.1), (4, .int a_4.1), (0, .ref (A 0)), (1, .int p1), (2, .int p2)]) hx hb dX5_findGets_97 hl (k := 5) rfl (by rw [ev_35]; rfl) (by decide) rfl (fun ls hl => ?_)
        refine lv_goto (tgt := 2) hx hb dX5_findGets_100 (by decide) ?_
        exact ih2 (v_35, a_34) hf H locs ls hP hD hS (lv_sub hl [3, 4, 5, 0] rfl)

def f_X5_two (M : St) (p1 : Int32) (p2 : Int32) : Option (Int32 × St) := (bd (f_X5_isMan M p1) fun a_1 => (if a_1 = 0 then (bd (f_X5_no M (-1 : Int32)) fun a_3 => (some (a_3.1, a_3.2))) else (bd (f_X5_isMan M p2) fun a_4 => (if a_4 = 0 then (bd (f_X5_no M (-1 : Int32)) fun a_6 => (some (a_6.1, a_6.2))) else (if p1 = p2 then (bd (f_X5_no M (-1 : Int32)) fun a_26 => (some (a_26.1, a_26.2))) else (bd (f_X5_canTell M p1) fun a_8 => (if a_8 = 0 then (bd (f_X5_no M (-3 : Int32)) fun a_10 => (some (a_10.1, a_10.2))) else (bd (f_X5_canTell M p2) fun a_11 => (if a_11 = 0 then (bd (f_X5_no M (-3 : Int32)) fun a_25 => (some (a_25.1, a_25.2))) else (bd (f_X5_findGets M p1 p2) fun a_13 => (lp (fun (nx67 : Int32 → Option (Int32 × St)) (q67 : Int32) => (if (4 : Int32) ≤ q67 then (some ((-9 : Int32), a_13)) else (gi ((2 : Int32) * (q67 ^^^ (2 : Int32))) 8 (gi ((2 : Int32) * q67) 8 (if (a_13 14 (((2 : Int32) * q67)).toNatClampNeg) < (a_13 14 (((2 : Int32) * (q67 ^^^ (2 : Int32)))).toNatClampNeg) then (nm (q67 + (1 : Int32)) fun v_18 => (nx67 v_18)) else (gi (((2 : Int32) * (q67 ^^^ (1 : Int32))) + (1 : Int32)) 8 (gi (((2 : Int32) * q67) + (1 : Int32)) 8 (if (a_13 14 ((((2 : Int32) * q67) + (1 : Int32))).toNatClampNeg) < (a_13 14 ((((2 : Int32) * (q67 ^^^ (1 : Int32))) + (1 : Int32))).toNatClampNeg) then (nm (q67 + (1 : Int32)) fun v_22 => (nx67 v_22)) else (some ((((10 : Int32) * (q67 / (2 : Int32))) + (q67 - q67 / (2 : Int32) * (2 : Int32))), a_13)))))))))) 1000 (0 : Int32))))))))))))
def rm_X5_two : Room := { frames := 6, cells := 0, slots := 0, locals := 135 }
theorem hd_X5_two : yX5_two.cls = RX5 ∧ yX5_two.cls ≠ "java/lang/invoke/MethodHandle" ∧ yX5_two.cls ≠ "java/lang/invoke/VarHandle" ∧ (parseMethodDescriptor yX5_two.desc).map (fun d => d.parameters.length) = some 2 := by decide +kernel
set_option maxRecDepth 100000 in
set_option maxHeartbeats 4000000 in
theorem c_X5_two (l : Launch) (D : va_G) (cI : ClassId) (A : Nat → Nat) (M : St) (p1 : Int32) (p2 : Int32) (r : Int32 × St) (hf : f_X5_two M p1 p2 = some r) : Ct l yX5_two wsX5_two rm_X5_two D cI (cM cI A M) (cM cI A r.2) [.ref (A 0), .int p1, .int p2] (some (.int r.1)) := by
  unfold f_X5_two at hf
  refine Ct.ofI (cc := cX5_two) (maxL := 5) (by decide +kernel) rfl (Nat.le_of_ble_eq_true rfl) ?_
  intro p e s m args below meth c AA Q H locs ls hx hb hml hown hts hA hK hP hD hS hl hend0
  have hend : ∀ (r1 : Int32 × St) (H : Heap) (locs : List Loc) (pc : Nat) (ls : Array Slot), some r1 = some r → va_P D vwCl (cM cI A r1.2) H → va_S AA s.heap H locs → decode cX5_two pc = .ok (.ireturn, 1) → W p l e rm_X5_two s m args below meth c H locs 0 0 Q (F0 m pc ls [.int r1.1]) := by
    intro r1 H locs pc ls e1 hP hS hd; cases e1; exact hend0 H locs pc ls hP hS hd
  clear hend0
  have hw5 : ∀ w ∈ wsX50, w ∈ wsX5_two := by decide +kernel
  have k52 := hts (.fieldLink RX5 52 "AnchorsForConfessionModel" "gets" "[I") (by decide +kernel)
  replace hl : lv_has ls 5 [(0, .ref (A 0)), (1, .int p1), (2, .int p2)] := hl
  refine lv_aload_n hx hb dX5_two_0 rfl (lv_at hl 0 rfl) ?_
  refine lv_iload_n hx hb dX5_two_1 rfl (lv_at hl 1 rfl) ?_
  obtain ⟨a_1, ha_1, hf⟩ := bd_e hf
  refine Ct.callV (As := [.int p1]) (rest := []) (st1 := [.int a_1]) (c_X5_isMan l D cI A M p1 a_1 ha_1) hx hb hml hown hts (cwV 1 hts gX5_two_X5_isMan rfl rfl rfl hd_X5_isMan ⟨Nat.le_of_ble_eq_true rfl, Nat.le_of_ble_eq_true rfl⟩) (va_recv hK hP (ci := 5) (q0 := 0) rfl cM_at0) (Ln.id rfl) hA hK hP hD hS rfl hl.1 rfl rfl (Nat.le_of_ble_eq_true rfl) dX5_two_2 (fun H locs hP hD hS => ?_)
  refine lv_if_eq (tgt := 21) hx hb dX5_two_5 (by decide) (fun c_2 => ?_) (fun c_2 => ?_)
  · replace hf := if_t c_2 hf
    refine lv_iconst (v := -1) hx hb dX5_two_21 (by decide) ?_
    refine lv_goto (tgt := 47) hx hb dX5_two_22 (by decide) ?_
    refine lv_istore_n (lv' := [(3, .int (-1 : Int32)), (0, .ref (A 0)), (1, .int p1), (2, .int p2)]) hx hb dX5_two_47 rfl hl (by decide) rfl (fun ls hl => ?_)
    refine lv_iload_n hx hb dX5_two_48 rfl (lv_at hl 0 rfl) ?_
    refine lv_if_eq (tgt := 58) hx hb dX5_two_49 (by decide) (fun c0 => absurd c0 (by decide)) (fun _ => ?_)
    refine lv_aload_n hx hb dX5_two_52 rfl (lv_at hl 1 rfl) ?_
    refine lv_iload_n hx hb dX5_two_53 rfl (lv_at hl 0 rfl) ?_
    obtain ⟨a_3, ha_3, hf⟩ := bd_e hf
    refine Ct.callV (As := [.int (-1 : Int32)]) (rest := []) (st1 := [.int a_3.1]) (c_X5_no l D cI A M (-1 : Int32) a_3 ha_3) hx hb hml hown hts (cwV 1 hts gX5_two_X5_no rfl rfl rfl hd_X5_no ⟨Nat.le_of_ble_eq_true rfl, Nat.le_of_ble_eq_true rfl⟩) (va_recv hK hP (ci := 5) (q0 := 0) rfl cM_at0) (Ln.id rfl) hA hK hP hD hS rfl hl.1 rfl rfl (Nat.le_of_ble_eq_true rfl) dX5_two_54 (fun H locs hP hD hS => ?_)
    replace hP : va_P D vwCl (cM cI A a_3.2) H := hP
    replace hD : va_D AA (cM cI A a_3.2) := hD
    exact hend (a_3.1, a_3.2) H locs _ _ hf hP hS dX5_two_57
  · replace hf := if_f c_2 hf
    refine lv_aload_n hx hb dX5_two_8 rfl (lv_at hl 0 rfl) ?_
    refine lv_iload_n hx hb dX5_two_9 rfl (lv_at hl 2 rfl) ?_
    obtain ⟨a_4, ha_4, hf⟩ := bd_e hf
    refine Ct.callV (As := [.int p2]) (rest := []) (st1 := [.int a_4]) (c_X5_isMan l D cI A M p2 a_4 ha_4) hx hb hml hown hts (cwV 1 hts gX5_two_X5_isMan rfl rfl rfl hd_X5_isMan ⟨Nat.le_of_ble_eq_true rfl, Nat.le_of_ble_eq_true rfl⟩) (va_recv hK hP (ci := 5) (q0 := 0) rfl cM_at0) (Ln.id rfl) hA hK hP hD hS rfl hl.1 rfl rfl (Nat.le_of_ble_eq_true rfl) dX5_two_10 (fun H locs hP hD hS => ?_)
    refine lv_if_eq (tgt := 21) hx hb dX5_two_13 (by decide) (fun c_5 => ?_) (fun c_5 => ?_)
    · replace hf := if_t c_5 hf
      refine lv_iconst (v := -1) hx hb dX5_two_21 (by decide) ?_
      refine lv_goto (tgt := 47) hx hb dX5_two_22 (by decide) ?_
      refine lv_istore_n (lv' := [(3, .int (-1 : Int32)), (0, .ref (A 0)), (1, .int p1), (2, .int p2)]) hx hb dX5_two_47 rfl hl (by decide) rfl (fun ls hl => ?_)
      refine lv_iload_n hx hb dX5_two_48 rfl (lv_at hl 0 rfl) ?_
      refine lv_if_eq (tgt := 58) hx hb dX5_two_49 (by decide) (fun c0 => absurd c0 (by decide)) (fun _ => ?_)
      refine lv_aload_n hx hb dX5_two_52 rfl (lv_at hl 1 rfl) ?_
      refine lv_iload_n hx hb dX5_two_53 rfl (lv_at hl 0 rfl) ?_
      obtain ⟨a_6, ha_6, hf⟩ := bd_e hf
      refine Ct.callV (As := [.int (-1 : Int32)]) (rest := []) (st1 := [.int a_6.1]) (c_X5_no l D cI A M (-1 : Int32) a_6 ha_6) hx hb hml hown hts (cwV 1 hts gX5_two_X5_no rfl rfl rfl hd_X5_no ⟨Nat.le_of_ble_eq_true rfl, Nat.le_of_ble_eq_true rfl⟩) (va_recv hK hP (ci := 5) (q0 := 0) rfl cM_at0) (Ln.id rfl) hA hK hP hD hS rfl hl.1 rfl rfl (Nat.le_of_ble_eq_true rfl) dX5_two_54 (fun H locs hP hD hS => ?_)
      replace hP : va_P D vwCl (cM cI A a_6.2) H := hP
      replace hD : va_D AA (cM cI A a_6.2) := hD
      exact hend (a_6.1, a_6.2) H locs _ _ hf hP hS dX5_two_57
    · replace hf := if_f c_5 hf
      refine lv_iload_n hx hb dX5_two_16 rfl (lv_at hl 1 rfl) ?_
      refine lv_iload_n hx hb dX5_two_17 rfl (lv_at hl 2 rfl) ?_
      refine lv_icmp_ne (tgt := 25) hx hb dX5_two_18 (by decide) (fun c_7 => ?_) (fun c_7 => ?_)
      · replace hf := if_f c_7 hf
        refine lv_aload_n hx hb dX5_two_25 rfl (lv_at hl 0 rfl) ?_
        refine lv_iload_n hx hb dX5_two_26 rfl (lv_at hl 1 rfl) ?_
        obtain ⟨a_8, ha_8, hf⟩ := bd_e hf
        refine Ct.callV (As := [.int p1]) (rest := []) (st1 := [.int a_8]) (c_X5_canTell l D cI A M p1 a_8 ha_8) hx hb hml hown hts (cwV 1 hts gX5_two_X5_canTell rfl rfl rfl hd_X5_canTell ⟨Nat.le_of_ble_eq_true rfl, Nat.le_of_ble_eq_true rfl⟩) (va_recv hK hP (ci := 5) (q0 := 0) rfl cM_at0) (Ln.id rfl) hA hK hP hD hS rfl hl.1 rfl rfl (Nat.le_of_ble_eq_true rfl) dX5_two_27 (fun H locs hP hD hS => ?_)
        refine lv_if_eq (tgt := 41) hx hb dX5_two_30 (by decide) (fun c_9 => ?_) (fun c_9 => ?_)
        · replace hf := if_t c_9 hf
          refine lv_bipush (v := -3) hx hb dX5_two_41 (by decide +kernel) ?_
          refine lv_goto (tgt := 47) hx hb dX5_two_43 (by decide) ?_
          refine lv_istore_n (lv' := [(3, .int (-3 : Int32)), (0, .ref (A 0)), (1, .int p1), (2, .int p2)]) hx hb dX5_two_47 rfl hl (by decide) rfl (fun ls hl => ?_)
          refine lv_iload_n hx hb dX5_two_48 rfl (lv_at hl 0 rfl) ?_
          refine lv_if_eq (tgt := 58) hx hb dX5_two_49 (by decide) (fun c0 => absurd c0 (by decide)) (fun _ => ?_)
          refine lv_aload_n hx hb dX5_two_52 rfl (lv_at hl 1 rfl) ?_
          refine lv_iload_n hx hb dX5_two_53 rfl (lv_at hl 0 rfl) ?_
          obtain ⟨a_10, ha_10, hf⟩ := bd_e hf
          refine Ct.callV (As := [.int (-3 : Int32)]) (rest := []) (st1 := [.int a_10.1]) (c_X5_no l D cI A M (-3 : Int32) a_10 ha_10) hx hb hml hown hts (cwV 1 hts gX5_two_X5_no rfl rfl rfl hd_X5_no ⟨Nat.le_of_ble_eq_true rfl, Nat.le_of_ble_eq_true rfl⟩) (va_recv hK hP (ci := 5) (q0 := 0) rfl cM_at0) (Ln.id rfl) hA hK hP hD hS rfl hl.1 rfl rfl (Nat.le_of_ble_eq_true rfl) dX5_two_54 (fun H locs hP hD hS => ?_)
          replace hP : va_P D vwCl (cM cI A a_10.2) H := hP
          replace hD : va_D AA (cM cI A a_10.2) := hD
          exact hend (a_10.1, a_10.2) H locs _ _ hf hP hS dX5_two_57
        · replace hf := if_f c_9 hf
          refine lv_aload_n hx hb dX5_two_33 rfl (lv_at hl 0 rfl) ?_
          refine lv_iload_n hx hb dX5_two_34 rfl (lv_at hl 2 rfl) ?_
          obtain ⟨a_11, ha_11, hf⟩ := bd_e hf
          refine Ct.callV (As := [.int p2]) (rest := []) (st1 := [.int a_11]) (c_X5_canTell l D cI A M p2 a_11 ha_11) hx hb hml hown hts (cwV 1 hts gX5_two_X5_canTell rfl rfl rfl hd_X5_canTell ⟨Nat.le_of_ble_eq_true rfl, Nat.le_of_ble_eq_true rfl⟩) (va_recv hK hP (ci := 5) (q0 := 0) rfl cM_at0) (Ln.id rfl) hA hK hP hD hS rfl hl.1 rfl rfl (Nat.le_of_ble_eq_true rfl) dX5_two_35 (fun H locs hP hD hS => ?_)
          refine lv_if_ne (tgt := 46) hx hb dX5_two_38 (by decide) (fun c_12 => ?_) (fun c_12 => ?_)
          · replace hf := if_f c_12 hf
            refine lv_iconst (v := 0) hx hb dX5_two_46 (by decide) ?_
            refine lv_istore_n (lv' := [(3, .int (0 : Int32)), (0, .ref (A 0)), (1, .int p1), (2, .int p2)]) hx hb dX5_two_47 rfl hl (by decide) rfl (fun ls hl => ?_)
            refine lv_iload_n hx hb dX5_two_48 rfl (lv_at hl 0 rfl) ?_
            refine lv_if_eq (tgt := 58) hx hb dX5_two_49 (by decide) (fun _ => ?_) (fun c0 => absurd c0 (by decide))
            refine lv_aload_n hx hb dX5_two_58 rfl (lv_at hl 1 rfl) ?_
            refine lv_iload_n hx hb dX5_two_59 rfl (lv_at hl 2 rfl) ?_
            refine lv_iload_n hx hb dX5_two_60 rfl (lv_at hl 3 rfl) ?_
            obtain ⟨a_13, ha_13, hf⟩ := bd_e hf
            refine Ct.callV (As := [.int p1, .int p2]) (rest := []) (st1 := []) (c_X5_findGets l D cI A M p1 p2 a_13 ha_13) hx hb hml hown hts (cwV 2 hts gX5_two_X5_findGets rfl rfl rfl hd_X5_findGets ⟨Nat.le_of_ble_eq_true rfl, Nat.le_of_ble_eq_true rfl⟩) (va_recv hK hP (ci := 5) (q0 := 0) rfl cM_at0) (Ln.id rfl) hA hK hP hD hS rfl hl.1 rfl rfl (Nat.le_of_ble_eq_true rfl) dX5_two_61 (fun H locs hP hD hS => ?_)
            replace hP : va_P D vwCl (cM cI A a_13) H := hP
            replace hD : va_D AA (cM cI A a_13) := hD
            refine lv_iconst (v := 0) hx hb dX5_two_64 (by decide) ?_
            refine lv_istore (lv' := [(4, .int (0 : Int32)), (3, .int (0 : Int32)), (0, .ref (A 0)), (1, .int p1), (2, .int p2)]) hx hb dX5_two_65 hl (by decide) rfl (fun ls hl => ?_)
            refine lp_ind (P := fun (q67 : Int32) => ∀ (H : Heap) (locs : List Loc) (ls : Array Slot), va_P D vwCl (cM cI A a_13) H → va_D AA (cM cI A a_13) → va_S AA s.heap H locs → lv_has ls 5 [(0, .ref (A 0)), (4, .int q67)] → W p l e rm_X5_two s m args below meth c H locs 0 0 Q (F0 m 67 ls [])) hf ?_ H locs ls hP hD hS (lv_sub hl [2, 0] rfl)
            clear hf hP hD hS hl
            intro nx67 ih67 q67 hf H locs ls hP hD hS hl
            refine lv_iload hx hb dX5_two_67 (lv_at hl 1 rfl) ?_
            refine lv_iconst (v := 4) hx hb dX5_two_69 (by decide) ?_
            refine lv_icmp_ge (tgt := 142) hx hb dX5_two_70 (by decide) (fun c_14 => ?_) (fun c_14 => ?_)
            · replace hf := if_t c_14 hf
              refine lv_bipush (v := -9) hx hb dX5_two_142 (by decide +kernel) ?_
              exact hend ((-9 : Int32), a_13) H locs _ _ hf hP hS dX5_two_144
            · replace hf := if_f c_14 hf
              refine lv_aload_n hx hb dX5_two_73 rfl (lv_at hl 0 rfl) ?_
              refine va_get (D := D) (ci := 5) (v := .ref (A 15)) (C := RX5) (T := TX5) (N := 27) hx hb hts hw5 hown hK hP 0 cM_at0 rfl 24 (by decide) k52 (fun _ h9 => h9) rfl dX5_two_74 ?_
              refine lv_iconst (v := 2) hx hb dX5_two_77 (by decide) ?_
              refine lv_iload hx hb dX5_two_78 (lv_at hl 1 rfl) ?_
              refine lv_iconst (v := 2) hx hb dX5_two_80 (by decide) ?_
              refine lv_ixor hx hb dX5_two_81 ?_
              refine lv_imul hx hb dX5_two_82 ?_
              obtain ⟨c_15, hf⟩ := gi_e hf
              refine va_iald hx hb hK hP 15 0 cM_at15 rfl c_15 dX5_two_83 ?_
              refine lv_aload_n hx hb dX5_two_84 rfl (lv_at hl 0 rfl) ?_
              refine va_get (D := D) (ci := 5) (v := .ref (A 15)) (C := RX5) (T := TX5) (N := 27) hx hb hts hw5 hown hK hP 0 cM_at0 rfl 24 (by decide) k52 (fun _ h9 => h9) rfl dX5_two_85 ?_
              refine lv_iconst (v := 2) hx hb dX5_two_88 (by decide) ?_
              refine lv_iload hx hb dX5_two_89 (lv_at hl 1 rfl) ?_
              refine lv_imul hx hb dX5_two_91 ?_
              obtain ⟨c_16, hf⟩ := gi_e hf
              refine va_iald hx hb hK hP 15 0 cM_at15 rfl c_16 dX5_two_92 ?_
              refine lv_icmp_gt (tgt := 136) hx hb dX5_two_93 (by decide) (fun c_17 => ?_) (fun c_17 => ?_)
              · replace hf := if_t c_17 hf
                obtain ⟨v_18, ev_18, hf⟩ := nm_e hf
                refine lv_iinc (v := v_18) (lv' := [(4, .int v_18), (0, .ref (A 0))]) hx hb dX5_two_136 hl (k := 1) rfl (by rw [ev_18]; rfl) (by decide) rfl (fun ls hl => ?_)
                refine lv_goto (tgt := 67) hx hb dX5_two_139 (by decide) ?_
                exact ih67 v_18 hf H locs ls hP hD hS (lv_sub hl [1, 0] rfl)
              · replace hf := if_f c_17 hf
                refine lv_aload_n hx hb dX5_two_96 rfl (lv_at hl 0 rfl) ?_
                refine va_get (D := D) (ci := 5) (v := .ref (A 15)) (C := RX5) (T := TX5) (N := 27) hx hb hts hw5 hown hK hP 0 cM_at0 rfl 24 (by decide) k52 (fun _ h9 => h9) rfl dX5_two_97 ?_
                refine lv_iconst (v := 2) hx hb dX5_two_100 (by decide) ?_
                refine lv_iload hx hb dX5_two_101 (lv_at hl 1 rfl) ?_
                refine lv_iconst (v := 1) hx hb dX5_two_103 (by decide) ?_
                refine lv_ixor hx hb dX5_two_104 ?_
                refine lv_imul hx hb dX5_two_105 ?_
                refine lv_iconst (v := 1) hx hb dX5_two_106 (by decide) ?_
                refine lv_iadd hx hb dX5_two_107 ?_
                obtain ⟨c_19, hf⟩ := gi_e hf
                refine va_iald hx hb hK hP 15 0 cM_at15 rfl c_19 dX5_two_108 ?_
                refine lv_aload_n hx hb dX5_two_109 rfl (lv_at hl 0 rfl) ?_
                refine va_get (D := D) (ci := 5) (v := .ref (A 15)) (C := RX5) (T := TX5) (N := 27) hx hb hts hw5 hown hK hP 0 cM_at0 rfl 24 (by decide) k52 (fun _ h9 => h9) rfl dX5_two_110 ?_
                refine lv_iconst (v := 2) hx hb dX5_two_113 (by decide) ?_
                refine lv_iload hx hb dX5_two_114 (lv_at hl 1 rfl) ?_
                refine lv_imul hx hb dX5_two_116 ?_
                refine lv_iconst (v := 1) hx hb dX5_two_117 (by decide) ?_
                refine lv_iadd hx hb dX5_two_118 ?_
                obtain ⟨c_20, hf⟩ := gi_e hf
                refine va_iald hx hb hK hP 15 0 cM_at15 rfl c_20 dX5_two_119 ?_
                refine lv_icmp_gt (tgt := 136) hx hb dX5_two_120 (by decide) (fun c_21 => ?_) (fun c_21 => ?_)
                · replace hf := if_t c_21 hf
                  obtain ⟨v_22, ev_22, hf⟩ := nm_e hf
                  refine lv_iinc (v := v_22) (lv' := [(4, .int v_22), (0, .ref (A 0))]) hx hb dX5_two_136 hl (k := 1) rfl (by rw [ev_22]; rfl) (by decide) rfl (fun ls hl => ?_)
                  refine lv_goto (tgt := 67) hx hb dX5_two_139 (by decide) ?_
                  exact ih67 v_22 hf H locs ls hP hD hS (lv_sub hl [1, 0] rfl)
                · replace hf := if_f c_21 hf
                  refine lv_bipush (v := 10) hx hb dX5_two_123 (by decide +kernel) ?_
                  refine lv_iload hx hb dX5_two_125 (lv_at hl 1 rfl) ?_
                  refine lv_iconst (v := 2) hx hb dX5_two_127 (by decide) ?_
                  refine lv_idiv hx hb dX5_two_128 (by decide) ?_
                  refine lv_imul hx hb dX5_two_129 ?_
                  refine lv_iload hx hb dX5_two_130 (lv_at hl 1 rfl) ?_
                  refine lv_iconst (v := 2) hx hb dX5_two_132 (by decide) ?_
                  refine lv_irem hx hb dX5_two_133 (by decide) ?_
                  refine lv_iadd hx hb dX5_two_134 ?_
                  exact hend ((((10 : Int32) * (q67 / (2 : Int32))) + (q67 - q67 / (2 : Int32) * (2 : Int32))), a_13) H locs _ _ hf hP hS dX5_two_135
          · replace hf := if_t c_12 hf
            refine lv_bipush (v := -3) hx hb dX5_two_41 (by decide +kernel) ?_
            refine lv_goto (tgt := 47) hx hb dX5_two_43 (by decide) ?_
            refine lv_istore_n (lv' := [(3, .int (-3 : Int32)), (0, .ref (A 0)), (1, .int p1), (2, .int p2)]) hx hb dX5_two_47 rfl hl (by decide) rfl (fun ls hl => ?_)
            refine lv_iload_n hx hb dX5_two_48 rfl (lv_at hl 0 rfl) ?_
            refine lv_if_eq (tgt := 58) hx hb dX5_two_49 (by decide) (fun c0 => absurd c0 (by decide)) (fun _ => ?_)
            refine lv_aload_n hx hb dX5_two_52 rfl (lv_at hl 1 rfl) ?_
            refine lv_iload_n hx hb dX5_two_53 rfl (lv_at hl 0 rfl) ?_
            obtain ⟨a_25, ha_25, hf⟩ := bd_e hf
            refine Ct.callV (As := [.int (-3 : Int32)]) (rest := []) (st1 := [.int a_25.1]) (c_X5_no l D cI A M (-3 : Int32) a_25 ha_25) hx hb hml hown hts (cwV 1 hts gX5_two_X5_no rfl rfl rfl hd_X5_no ⟨Nat.le_of_ble_eq_true rfl, Nat.le_of_ble_eq_true rfl⟩) (va_recv hK hP (ci := 5) (q0 := 0) rfl cM_at0) (Ln.id rfl) hA hK hP hD hS rfl hl.1 rfl rfl (Nat.le_of_ble_eq_true rfl) dX5_two_54 (fun H locs hP hD hS => ?_)
            replace hP : va_P D vwCl (cM cI A a_25.2) H := hP
            replace hD : va_D AA (cM cI A a_25.2) := hD
            exact hend (a_25.1, a_25.2) H locs _ _ hf hP hS dX5_two_57
      · replace hf := if_t c_7 hf
        refine lv_iconst (v := -1) hx hb dX5_two_21 (by decide) ?_
        refine lv_goto (tgt := 47) hx hb dX5_two_22 (by decide) ?_
        refine lv_istore_n (lv' := [(3, .int (-1 : Int32)), (0, .ref (A 0)), (1, .int p1), (2, .int p2)]) hx hb dX5_two_47 rfl hl (by decide) rfl (fun ls hl => ?_)
        refine lv_iload_n hx hb dX5_two_48 rfl (lv_at hl 0 rfl) ?_
        refine lv_if_eq (tgt := 58) hx hb dX5_two_49 (by decide) (fun c0 => absurd c0 (by decide)) (fun _ => ?_)
        refine lv_aload_n hx hb dX5_two_52 rfl (lv_at hl 1 rfl) ?_
        refine lv_iload_n hx hb dX5_two_53 rfl (lv_at hl 0 rfl) ?_
        obtain ⟨a_26, ha_26, hf⟩ := bd_e hf
        refine Ct.callV (As := [.int (-1 : Int32)]) (rest := []) (st1 := [.int a_26.1]) (c_X5_no l D cI A M (-1 : Int32) a_26 ha_26) hx hb hml hown hts (cwV 1 hts gX5_two_X5_no rfl rfl rfl hd_X5_no ⟨Nat.le_of_ble_eq_true rfl, Nat.le_of_ble_eq_true rfl⟩) (va_recv hK hP (ci := 5) (q0 := 0) rfl cM_at0) (Ln.id rfl) hA hK hP hD hS rfl hl.1 rfl rfl (Nat.le_of_ble_eq_true rfl) dX5_two_54 (fun H locs hP hD hS => ?_)
        replace hP : va_P D vwCl (cM cI A a_26.2) H := hP
        replace hD : va_D AA (cM cI A a_26.2) := hD
        exact hend (a_26.1, a_26.2) H locs _ _ hf hP hS dX5_two_57

def f_X5_divisor (p1 : Int64) (p2 : Int64) : Option (Int64) := (lp (fun (nx6 : (Int64 × Int64) → Option (Int64)) (q6 : Int64 × Int64) => (if (lg_cmp q6.2 (0 : Int64)) = 0 then (some q6.1) else (gd (¬ q6.2 = 0) (nm (q6.1 - q6.1 / q6.2 * q6.2) fun v_3 => (nx6 (q6.2, v_3)))))) 1000 (p1, p2))
def rm_X5_divisor : Room := { frames := 0, cells := 0, slots := 0, locals := 0 }
theorem hd_X5_divisor : yX5_divisor.cls ≠ "java/lang/invoke/MethodHandle" ∧ yX5_divisor.cls ≠ "java/lang/invoke/VarHandle" ∧ (parseMethodDescriptor yX5_divisor.desc).map (fun d => d.parameters.length) = some 2 := by decide +kernel
set_option maxRecDepth 100000 in
set_option maxHeartbeats 4000000 in
theorem c_X5_divisor (l : Launch) (D : va_G) (cI : ClassId) (p1 : Int64) (p2 : Int64) (r : Int64) (hf : f_X5_divisor p1 p2 = some r) : Ct l yX5_divisor wsX5_divisor rm_X5_divisor D cI [] [] [.long p1, .long p2] (some (.long r)) := by
  unfold f_X5_divisor at hf
  refine Ct.ofL (cc := cX5_divisor) (maxL := 10) (by decide +kernel) rfl (Nat.le_of_ble_eq_true rfl) ?_
  intro p e s m args below meth c AA Q H locs ls hx hb hml hown hts hA hK hP hD hS hl hend0
  have hend : ∀ (r1 : Int64) (H : Heap) (locs : List Loc) (pc : Nat) (ls : Array Slot), some r1 = some r → va_P D vwCl [] H → va_S AA s.heap H locs → decode cX5_divisor pc = .ok (.lreturn, 1) → W p l e rm_X5_divisor s m args below meth c H locs 0 0 Q (F0 m pc ls [.long r1]) := by
    intro r1 H locs pc ls e1 hP hS hd; cases e1; exact hend0 H locs pc ls hP hS hd
  clear hend0
  replace hl : lv_has ls 10 [(0, .long p1), (2, .long p2)] := hl
  refine lv_lload_n hx hb dX5_divisor_0 rfl (lv_at hl 0 rfl) ?_
  refine lv_lstore (lv' := [(4, .long p1), (0, .long p1), (2, .long p2)]) hx hb dX5_divisor_1 hl (by decide) rfl (fun ls hl => ?_)
  refine lv_lload_n hx hb dX5_divisor_3 rfl (lv_at hl 2 rfl) ?_
  refine lv_lstore (lv' := [(6, .long p2), (4, .long p1), (0, .long p1), (2, .long p2)]) hx hb dX5_divisor_4 hl (by decide) rfl (fun ls hl => ?_)
  refine lp_ind (P := fun (q6 : Int64 × Int64) => ∀ (H : Heap) (locs : List Loc) (ls : Array Slot), va_P D vwCl [] H → va_D AA [] → va_S AA s.heap H locs → lv_has ls 10 [(4, .long q6.1), (6, .long q6.2)] → W p l e rm_X5_divisor s m args below meth c H locs 0 0 Q (F0 m 6 ls [])) hf ?_ H locs ls hP hD hS (lv_sub hl [1, 0] rfl)
  clear hf hP hD hS hl
  intro nx6 ih6 q6 hf H locs ls hP hD hS hl
  refine lv_lload hx hb dX5_divisor_6 (lv_at hl 1 rfl) ?_
  refine lv_lconst (v := 0) hx hb dX5_divisor_8 (by decide) ?_
  refine W.lcmp hx hb dX5_divisor_9 ?_
  refine lv_if_eq (tgt := 31) hx hb dX5_divisor_10 (by decide) (fun c_1 => ?_) (fun c_1 => ?_)
  · replace hf := if_t c_1 hf
    refine lv_lload hx hb dX5_divisor_31 (lv_at hl 0 rfl) ?_
    exact hend q6.1 H locs _ _ hf hP hS dX5_divisor_33
  · replace hf := if_f c_1 hf
    refine lv_lload hx hb dX5_divisor_13 (lv_at hl 0 rfl) ?_
    refine lv_lload hx hb dX5_divisor_15 (lv_at hl 1 rfl) ?_
    obtain ⟨c_2, hf⟩ := gd_e hf
    refine lv_lrem hx hb dX5_divisor_17 c_2 ?_
    refine lv_topl (fun v_3 ev_3 => ?_)
    replace hf := nm_at ev_3 hf
    refine lv_lstore (lv' := [(8, .long v_3), (4, .long q6.1), (6, .long q6.2)]) hx hb dX5_divisor_18 hl (by decide) rfl (fun ls hl => ?_)
    refine lv_lload hx hb dX5_divisor_20 (lv_at hl 2 rfl) ?_
    refine lv_lstore (lv' := [(4, .long q6.2), (8, .long v_3), (6, .long q6.2)]) hx hb dX5_divisor_22 hl (by decide) rfl (fun ls hl => ?_)
    refine lv_lload hx hb dX5_divisor_24 (lv_at hl 1 rfl) ?_
    refine lv_lstore (lv' := [(6, .long v_3), (4, .long q6.2), (8, .long v_3)]) hx hb dX5_divisor_26 hl (by decide) rfl (fun ls hl => ?_)
    refine lv_goto (tgt := 6) hx hb dX5_divisor_28 (by decide) ?_
    exact ih6 (q6.2, v_3) hf H locs ls hP hD hS (lv_sub hl [1, 0] rfl)

def f_X5_partOf (p1 : Int64) (p2 : Int64) (p3 : Int32) : Option (Int64) := (if p3 = 0 then (bd (f_X5_divisor p1 p2) fun a_4 => (gd (¬ a_4 = 0) (some (p1 / a_4)))) else (bd (f_X5_divisor p1 p2) fun a_2 => (gd (¬ a_2 = 0) (some (p2 / a_2)))))
def rm_X5_partOf : Room := { frames := 1, cells := 0, slots := 0, locals := 29 }
theorem hd_X5_partOf : yX5_partOf.cls ≠ "java/lang/invoke/MethodHandle" ∧ yX5_partOf.cls ≠ "java/lang/invoke/VarHandle" ∧ (parseMethodDescriptor yX5_partOf.desc).map (fun d => d.parameters.length) = some 3 := by decide +kernel
set_option maxRecDepth 100000 in
set_option maxHeartbeats 4000000 in
theorem c_X5_partOf (l : Launch) (D : va_G) (cI : ClassId) (p1 : Int64) (p2 : Int64) (p3 : Int32) (r : Int64) (hf : f_X5_partOf p1 p2 p3 = some r) : Ct l yX5_partOf wsX5_partOf rm_X5_partOf D cI [] [] [.long p1, .long p2, .int p3] (some (.long r)) := by
  unfold f_X5_partOf at hf
  refine Ct.ofL (cc := cX5_partOf) (maxL := 5) (by decide +kernel) rfl (Nat.le_of_ble_eq_true rfl) ?_
  intro p e s m args below meth c AA Q H locs ls hx hb hml hown hts hA hK hP hD hS hl hend0
  have hend : ∀ (r1 : Int64) (H : Heap) (locs : List Loc) (pc : Nat) (ls : Array Slot), some r1 = some r → va_P D vwCl [] H → va_S AA s.heap H locs → decode cX5_partOf pc = .ok (.lreturn, 1) → W p l e rm_X5_partOf s m args below meth c H locs 0 0 Q (F0 m pc ls [.long r1]) := by
    intro r1 H locs pc ls e1 hP hS hd; cases e1; exact hend0 H locs pc ls hP hS hd
  clear hend0
  replace hl : lv_has ls 5 [(0, .long p1), (2, .long p2), (4, .int p3)] := hl
  refine lv_iload hx hb dX5_partOf_0 (lv_at hl 2 rfl) ?_
  refine lv_if_ne (tgt := 9) hx hb dX5_partOf_2 (by decide) (fun c_1 => ?_) (fun c_1 => ?_)
  · replace hf := if_f c_1 hf
    refine lv_lload_n hx hb dX5_partOf_9 rfl (lv_at hl 1 rfl) ?_
    refine lv_lload_n hx hb dX5_partOf_10 rfl (lv_at hl 0 rfl) ?_
    refine lv_lload_n hx hb dX5_partOf_11 rfl (lv_at hl 1 rfl) ?_
    obtain ⟨a_2, ha_2, hf⟩ := bd_e hf
    refine Ct.callS (As := [.long p1, .long p2]) (rest := [.long p2]) (st1 := [.long a_2, .long p2]) (c_X5_divisor l D cI  p1 p2 a_2 ha_2) hx hb hml hown hts (va_cwS 2 hts gX5_partOf_X5_divisor rfl rfl rfl hd_X5_divisor ⟨Nat.le_of_ble_eq_true rfl, Nat.le_of_ble_eq_true rfl⟩) (Ln.id rfl) hA hK hP hD hS rfl hl.1 rfl rfl (Nat.le_of_ble_eq_true rfl) dX5_partOf_12 (fun H locs hP hD hS => ?_)
    obtain ⟨c_3, hf⟩ := gd_e hf
    refine lv_ldiv hx hb dX5_partOf_15 c_3 ?_
    exact hend (p2 / a_2) H locs _ _ hf hP hS dX5_partOf_16
  · replace hf := if_t c_1 hf
    refine lv_lload_n hx hb dX5_partOf_5 rfl (lv_at hl 0 rfl) ?_
    refine lv_goto (tgt := 10) hx hb dX5_partOf_6 (by decide) ?_
    refine lv_lload_n hx hb dX5_partOf_10 rfl (lv_at hl 0 rfl) ?_
    refine lv_lload_n hx hb dX5_partOf_11 rfl (lv_at hl 1 rfl) ?_
    obtain ⟨a_4, ha_4, hf⟩ := bd_e hf
    refine Ct.callS (As := [.long p1, .long p2]) (rest := [.long p1]) (st1 := [.long a_4, .long p1]) (c_X5_divisor l D cI  p1 p2 a_4 ha_4) hx hb hml hown hts (va_cwS 2 hts gX5_partOf_X5_divisor rfl rfl rfl hd_X5_divisor ⟨Nat.le_of_ble_eq_true rfl, Nat.le_of_ble_eq_true rfl⟩) (Ln.id rfl) hA hK hP hD hS rfl hl.1 rfl rfl (Nat.le_of_ble_eq_true rfl) dX5_partOf_12 (fun H locs hP hD hS => ?_)
    obtain ⟨c_5, hf⟩ := gd_e hf
    refine lv_ldiv hx hb dX5_partOf_15 c_5 ?_
    exact hend (p1 / a_4) H locs _ _ hf hP hS dX5_partOf_16

def f_X5_storms (M : St) : Option (St) := (lp (fun (nx2 : (Int32 × St) → Option (St)) (q2 : Int32 × St) => (if (q2.2 16 0) ≤ q2.1 then (bd (f_X5_rises q2.2) fun a_2 => (some a_2.2)) else (gi q2.1 5 (if (q2.2 3 (q2.1).toNatClampNeg) ≤ 0 then (gi q2.1 5 (bd (f_X5_held ((q2.2 2 (q2.1).toNatClampNeg) + (2 : Int32)) (0 : Int32) (99 : Int32)) fun a_6 => (gi q2.1 5 (nm (su q2.2 2 (q2.1).toNatClampNeg a_6) fun h_8 => (nm (q2.1 + (1 : Int32)) fun v_9 => (nx2 (v_9, h_8))))))) else (gi q2.1 5 (nm (su q2.2 2 (q2.1).toNatClampNeg (0 : Int32)) fun h_11 => (nm (q2.1 + (1 : Int32)) fun v_12 => (nx2 (v_12, h_11))))))))) 1000 ((0 : Int32), M))
def rm_X5_storms : Room := { frames := 2, cells := 0, slots := 0, locals := 43 }
theorem hd_X5_storms : yX5_storms.cls = RX5 ∧ yX5_storms.cls ≠ "java/lang/invoke/MethodHandle" ∧ yX5_storms.cls ≠ "java/lang/invoke/VarHandle" ∧ (parseMethodDescriptor yX5_storms.desc).map (fun d => d.parameters.length) = some 0 := by decide +kernel
set_option maxRecDepth 100000 in
set_option maxHeartbeats 4000000 in
theorem c_X5_storms (l : Launch) (D : va_G) (cI : ClassId) (A : Nat → Nat) (M : St) (r : St) (hf : f_X5_storms M = some r) : Ct l yX5_storms wsX5_storms rm_X5_storms D cI (cM cI A M) (cM cI A r) [.ref (A 0)] none := by
  unfold f_X5_storms at hf
  refine Ct.ofV (cc := cX5_storms) (maxL := 2) (by decide +kernel) rfl (Nat.le_of_ble_eq_true rfl) ?_
  intro p e s m args below meth c AA Q H locs ls hx hb hml hown hts hA hK hP hD hS hl hend0
  have hend : ∀ (r1 : St) (H : Heap) (locs : List Loc) (pc : Nat) (ls : Array Slot), some r1 = some r → va_P D vwCl (cM cI A r1) H → va_S AA s.heap H locs → decode cX5_storms pc = .ok (.return_, 1) → W p l e rm_X5_storms s m args below meth c H locs 0 0 Q (F0 m pc ls []) := by
    intro r1 H locs pc ls e1 hP hS hd; cases e1; exact hend0 H locs pc ls hP hS hd
  clear hend0
  have hw5 : ∀ w ∈ wsX50, w ∈ wsX5_storms := by decide +kernel
  have k16 := hts (.fieldLink RX5 16 "AnchorsForConfessionModel" "loose" "[I") (by decide +kernel)
  have k19 := hts (.fieldLink RX5 19 "AnchorsForConfessionModel" "out" "[I") (by decide +kernel)
  have k58 := hts (.fieldLink RX5 58 "AnchorsForConfessionModel" "ships" "I") (by decide +kernel)
  replace hl : lv_has ls 2 [(0, .ref (A 0))] := hl
  refine lv_iconst (v := 0) hx hb dX5_storms_0 (by decide) ?_
  refine lv_istore_n (lv' := [(1, .int (0 : Int32)), (0, .ref (A 0))]) hx hb dX5_storms_1 rfl hl (by decide) rfl (fun ls hl => ?_)
  refine lp_ind (P := fun (q2 : Int32 × St) => ∀ (H : Heap) (locs : List Loc) (ls : Array Slot), va_P D vwCl (cM cI A q2.2) H → va_D AA (cM cI A q2.2) → va_S AA s.heap H locs → lv_has ls 2 [(0, .ref (A 0)), (1, .int q2.1)] → W p l e rm_X5_storms s m args below meth c H locs 0 0 Q (F0 m 2 ls [])) hf ?_ H locs ls hP hD hS (lv_sub hl [1, 0] rfl)
  clear hf hP hD hS hl
  intro nx2 ih2 q2 hf H locs ls hP hD hS hl
  refine lv_iload_n hx hb dX5_storms_2 rfl (lv_at hl 1 rfl) ?_
  refine lv_aload_n hx hb dX5_storms_3 rfl (lv_at hl 0 rfl) ?_
  refine va_get (D := D) (ci := 5) (v := .int (q2.2 16 0)) (C := RX5) (T := TX5) (N := 27) hx hb hts hw5 hown hK hP 0 cM_at0 rfl 8 (by decide) k58 (fun _ h9 => h9) rfl dX5_storms_4 ?_
  refine lv_icmp_ge (tgt := 49) hx hb dX5_storms_7 (by decide) (fun c_1 => ?_) (fun c_1 => ?_)
  · replace hf := if_t c_1 hf
    refine lv_aload_n hx hb dX5_storms_49 rfl (lv_at hl 0 rfl) ?_
    obtain ⟨a_2, ha_2, hf⟩ := bd_e hf
    refine Ct.callV (As := []) (rest := []) (st1 := [.int a_2.1]) (c_X5_rises l D cI A q2.2 a_2 ha_2) hx hb hml hown hts (cwV 0 hts gX5_storms_X5_rises rfl rfl rfl hd_X5_rises ⟨Nat.le_of_ble_eq_true rfl, Nat.le_of_ble_eq_true rfl⟩) (va_recv hK hP (ci := 5) (q0 := 0) rfl cM_at0) (Ln.id rfl) hA hK hP hD hS rfl hl.1 rfl rfl (Nat.le_of_ble_eq_true rfl) dX5_storms_50 (fun H locs hP hD hS => ?_)
    replace hP : va_P D vwCl (cM cI A a_2.2) H := hP
    replace hD : va_D AA (cM cI A a_2.2) := hD
    refine lv_pop hx hb dX5_storms_53 rfl ?_
    exact hend a_2.2 H locs _ _ hf hP hS dX5_storms_54
  · replace hf := if_f c_1 hf
    refine lv_aload_n hx hb dX5_storms_10 rfl (lv_at hl 0 rfl) ?_
    refine va_get (D := D) (ci := 5) (v := .ref (A 3)) (C := RX5) (T := TX5) (N := 27) hx hb hts hw5 hown hK hP 0 cM_at0 rfl 2 (by decide) k16 (fun _ h9 => h9) rfl dX5_storms_11 ?_
    refine lv_iload_n hx hb dX5_storms_14 rfl (lv_at hl 1 rfl) ?_
    refine lv_aload_n hx hb dX5_storms_15 rfl (lv_at hl 0 rfl) ?_
    refine va_get (D := D) (ci := 5) (v := .ref (A 4)) (C := RX5) (T := TX5) (N := 27) hx hb hts hw5 hown hK hP 0 cM_at0 rfl 3 (by decide) k19 (fun _ h9 => h9) rfl dX5_storms_16 ?_
    refine lv_iload_n hx hb dX5_storms_19 rfl (lv_at hl 1 rfl) ?_
    obtain ⟨c_3, hf⟩ := gi_e hf
    refine va_iald hx hb hK hP 4 0 cM_at4 rfl c_3 dX5_storms_20 ?_
    refine lv_if_le (tgt := 28) hx hb dX5_storms_21 (by decide) (fun c_4 => ?_) (fun c_4 => ?_)
    · replace hf := if_t c_4 hf
      refine lv_aload_n hx hb dX5_storms_28 rfl (lv_at hl 0 rfl) ?_
      refine va_get (D := D) (ci := 5) (v := .ref (A 3)) (C := RX5) (T := TX5) (N := 27) hx hb hts hw5 hown hK hP 0 cM_at0 rfl 2 (by decide) k16 (fun _ h9 => h9) rfl dX5_storms_29 ?_
      refine lv_iload_n hx hb dX5_storms_32 rfl (lv_at hl 1 rfl) ?_
      obtain ⟨c_5, hf⟩ := gi_e hf
      refine va_iald hx hb hK hP 3 0 cM_at3 rfl c_5 dX5_storms_33 ?_
      refine lv_iconst (v := 2) hx hb dX5_storms_34 (by decide) ?_
      refine lv_iadd hx hb dX5_storms_35 ?_
      refine lv_iconst (v := 0) hx hb dX5_storms_36 (by decide) ?_
      refine lv_bipush (v := 99) hx hb dX5_storms_37 (by decide +kernel) ?_
      obtain ⟨a_6, ha_6, hf⟩ := bd_e hf
      refine Ct.callS (As := [.int ((q2.2 2 (q2.1).toNatClampNeg) + (2 : Int32)), .int (0 : Int32), .int (99 : Int32)]) (rest := [.int q2.1, .ref (A 3)]) (st1 := [.int a_6, .int q2.1, .ref (A 3)]) (c_X5_held l D cI  ((q2.2 2 (q2.1).toNatClampNeg) + (2 : Int32)) (0 : Int32) (99 : Int32) a_6 ha_6) hx hb hml hown hts (va_cwS 3 hts gX5_storms_X5_held rfl rfl rfl hd_X5_held ⟨Nat.le_of_ble_eq_true rfl, Nat.le_of_ble_eq_true rfl⟩) Ln.nil hA hK hP hD hS rfl hl.1 rfl rfl (Nat.le_of_ble_eq_true rfl) dX5_storms_39 (fun H locs hP hD hS => ?_)
      obtain ⟨c_7, hf⟩ := gi_e hf
      refine va_iast hx hb hK hP hD hS 3 0 cM_at3 rfl c_7 dX5_storms_42 (fun H locs hP hD hS => ?_)
      obtain ⟨h_8, eh_8, hf⟩ := nm_e hf
      rw [cM_su3, ← eh_8] at hP hD
      obtain ⟨v_9, ev_9, hf⟩ := nm_e hf
      refine lv_iinc (v := v_9) (lv' := [(1, .int v_9), (0, .ref (A 0))]) hx hb dX5_storms_43 hl (k := 1) rfl (by rw [ev_9]; rfl) (by decide) rfl (fun ls hl => ?_)
      refine lv_goto (tgt := 2) hx hb dX5_storms_46 (by decide) ?_
      exact ih2 (v_9, h_8) hf H locs ls hP hD hS (lv_sub hl [1, 0] rfl)
    · replace hf := if_f c_4 hf
      refine lv_iconst (v := 0) hx hb dX5_storms_24 (by decide) ?_
      refine lv_goto (tgt := 42) hx hb dX5_storms_25 (by decide) ?_
      obtain ⟨c_10, hf⟩ := gi_e hf
      refine va_iast hx hb hK hP hD hS 3 0 cM_at3 rfl c_10 dX5_storms_42 (fun H locs hP hD hS => ?_)
      obtain ⟨h_11, eh_11, hf⟩ := nm_e hf
      rw [cM_su3, ← eh_11] at hP hD
      obtain ⟨v_12, ev_12, hf⟩ := nm_e hf
      refine lv_iinc (v := v_12) (lv' := [(1, .int v_12), (0, .ref (A 0))]) hx hb dX5_storms_43 hl (k := 1) rfl (by rw [ev_12]; rfl) (by decide) rfl (fun ls hl => ?_)
      refine lv_goto (tgt := 2) hx hb dX5_storms_46 (by decide) ?_
      exact ih2 (v_12, h_11) hf H locs ls hP hD hS (lv_sub hl [1, 0] rfl)

def f_X5_storm (M : St) (p1 : Int32) (p2 : Int32) (p3 : Int32) (p4 : Int32) : Option (Int64 × St) := (bd (f_X5_isShip M p1) fun a_1 => (if a_1 = 0 then (bd (f_X5_lowestOf M (-1 : Int32)) fun a_47 => (some (a_47.1, a_47.2))) else (if p2 < 0 then (bd (f_X5_lowestOf M (-4 : Int32)) fun a_4 => (some (a_4.1, a_4.2))) else (if (2 : Int32) ≤ p3 then (if (7 : Int32) < p2 then (bd (f_X5_lowestOf M (-6 : Int32)) fun a_7 => (some (a_7.1, a_7.2))) else (if p3 ≤ (20 : Int32) then (bd (f_X5_isIn p4 (0 : Int32) (1 : Int32)) fun a_9 => (if a_9 = 0 then (bd (f_X5_lowestOf M (-2 : Int32)) fun a_44 => (some (a_44.1, a_44.2))) else (lp (fun (nx82 : (Int64 × Int32) → Option (Int64 × St)) (q82 : Int64 × Int32) => (if p2 ≤ q82.2 then (lp (fun (nx104 : (Int64 × Int32 × St) → Option (Int64 × St)) (q104 : Int64 × Int32 × St) => (if ((1 : Int32) <<< (p2 &&& 31)) ≤ q104.2.1 then (bd (f_X5_partOf q104.1 q82.1 p4) fun a_13 => (some (a_13, q104.2.2))) else (bd (f_X5_thinks q104.2.2) fun a_14 => (lp (fun (nx122 : (Int64 × Int32 × St) → Option (Int64 × St)) (q122 : Int64 × Int32 × St) => (if p2 ≤ q122.2.1 then (gi p1 5 (if (q122.2.2 3 (p1).toNatClampNeg) ≤ 0 then (nm (q104.1 + (0 : Int64)) fun v_18 => (bd (f_X5_forgets q122.2.2) fun a_19 => (nm (q104.2.1 + (1 : Int32)) fun v_20 => (nx104 (v_18, v_20, a_19))))) else (nm (q104.1 + q122.1) fun v_21 => (bd (f_X5_forgets q122.2.2) fun a_22 => (nm (q104.2.1 + (1 : Int32)) fun v_23 => (nx104 (v_21, v_23, a_22))))))) else (bd (f_X5_has q104.2.1 q122.2.1) fun a_24 => (if a_24 = 0 then (nm (q122.1 * ((p3 - (1 : Int32))).toInt64) fun v_26 => (bd (f_X5_has q104.2.1 q122.2.1) fun a_27 => (if a_27 = 0 then (bd (f_X5_goesTide q122.2.2) fun a_29 => (nm (q122.2.1 + (1 : Int32)) fun v_30 => (nx122 (v_26, v_30, a_29)))) else (bd (f_X5_storms q122.2.2) fun a_31 => (bd (f_X5_goesTide a_31) fun a_32 => (nm (q122.2.1 + (1 : Int32)) fun v_33 => (nx122 (v_26, v_33, a_32)))))))) else (nm (q122.1 * (1 : Int64)) fun v_34 => (bd (f_X5_has q104.2.1 q122.2.1) fun a_35 => (if a_35 = 0 then (bd (f_X5_goesTide q122.2.2) fun a_37 => (nm (q122.2.1 + (1 : Int32)) fun v_38 => (nx122 (v_34, v_38, a_37)))) else (bd (f_X5_storms q122.2.2) fun a_39 => (bd (f_X5_goesTide a_39) fun a_40 => (nm (q122.2.1 + (1 : Int32)) fun v_41 => (nx122 (v_34, v_41, a_40)))))))))))) 1000 ((1 : Int64), (0 : Int32), a_14))))) 1000 ((0 : Int64), (0 : Int32), M)) else (nm (q82.1 * (p3).toInt64) fun v_42 => (nm (q82.2 + (1 : Int32)) fun v_43 => (nx82 (v_42, v_43)))))) 1000 ((1 : Int64), (0 : Int32))))) else (bd (f_X5_lowestOf M (-6 : Int32)) fun a_45 => (some (a_45.1, a_45.2))))) else (bd (f_X5_lowestOf M (-4 : Int32)) fun a_46 => (some (a_46.1, a_46.2)))))))
def rm_X5_storm : Room := { frames := 3, cells := 0, slots := 0, locals := 64 }
theorem hd_X5_storm : yX5_storm.cls = RX5 ∧ yX5_storm.cls ≠ "java/lang/invoke/MethodHandle" ∧ yX5_storm.cls ≠ "java/lang/invoke/VarHandle" ∧ (parseMethodDescriptor yX5_storm.desc).map (fun d => d.parameters.length) = some 4 := by decide +kernel
set_option maxRecDepth 100000 in
set_option maxHeartbeats 4000000 in
theorem c_X5_storm (l : Launch) (D : va_G) (cI : ClassId) (A : Nat → Nat) (M : St) (p1 : Int32) (p2 : Int32) (p3 : Int32) (p4 : Int32) (r : Int64 × St) (hf : f_X5_storm M p1 p2 p3 p4 = some r) : Ct l yX5_storm wsX5_storm rm_X5_storm D cI (cM cI A M) (cM cI A r.2) [.ref (A 0), .int p1, .int p2, .int p3, .int p4] (some (.long r.1)) := by
  unfold f_X5_storm at hf
  refine Ct.ofL (cc := cX5_storm) (maxL := 14) (by decide +kernel) rfl (Nat.le_of_ble_eq_true rfl) ?_
  intro p e s m args below meth c AA Q H locs ls hx hb hml hown hts hA hK hP hD hS hl hend0
  have hend : ∀ (r1 : Int64 × St) (H : Heap) (locs : List Loc) (pc : Nat) (ls : Array Slot), some r1 = some r → va_P D vwCl (cM cI A r1.2) H → va_S AA s.heap H locs → decode cX5_storm pc = .ok (.lreturn, 1) → W p l e rm_X5_storm s m args below meth c H locs 0 0 Q (F0 m pc ls [.long r1.1]) := by
    intro r1 H locs pc ls e1 hP hS hd; cases e1; exact hend0 H locs pc ls hP hS hd
  clear hend0
  have hw5 : ∀ w ∈ wsX50, w ∈ wsX5_storm := by decide +kernel
  have k19 := hts (.fieldLink RX5 19 "AnchorsForConfessionModel" "out" "[I") (by decide +kernel)
  replace hl : lv_has ls 14 [(0, .ref (A 0)), (1, .int p1), (2, .int p2), (3, .int p3), (4, .int p4)] := hl
  refine lv_aload_n hx hb dX5_storm_0 rfl (lv_at hl 0 rfl) ?_
  refine lv_iload_n hx hb dX5_storm_1 rfl (lv_at hl 1 rfl) ?_
  obtain ⟨a_1, ha_1, hf⟩ := bd_e hf
  refine Ct.callV (As := [.int p1]) (rest := []) (st1 := [.int a_1]) (c_X5_isShip l D cI A M p1 a_1 ha_1) hx hb hml hown hts (cwV 1 hts gX5_storm_X5_isShip rfl rfl rfl hd_X5_isShip ⟨Nat.le_of_ble_eq_true rfl, Nat.le_of_ble_eq_true rfl⟩) (va_recv hK hP (ci := 5) (q0 := 0) rfl cM_at0) (Ln.id rfl) hA hK hP hD hS rfl hl.1 rfl rfl (Nat.le_of_ble_eq_true rfl) dX5_storm_2 (fun H locs hP hD hS => ?_)
  refine lv_if_ne (tgt := 12) hx hb dX5_storm_5 (by decide) (fun c_2 => ?_) (fun c_2 => ?_)
  · replace hf := if_f c_2 hf
    refine lv_iload_n hx hb dX5_storm_12 rfl (lv_at hl 2 rfl) ?_
    refine lv_if_lt (tgt := 21) hx hb dX5_storm_13 (by decide) (fun c_3 => ?_) (fun c_3 => ?_)
    · replace hf := if_t c_3 hf
      refine lv_bipush (v := -4) hx hb dX5_storm_21 (by decide +kernel) ?_
      refine lv_goto (tgt := 59) hx hb dX5_storm_23 (by decide) ?_
      refine lv_istore (lv' := [(5, .int (-4 : Int32)), (0, .ref (A 0)), (1, .int p1), (2, .int p2), (3, .int p3), (4, .int p4)]) hx hb dX5_storm_59 hl (by decide) rfl (fun ls hl => ?_)
      refine lv_iload hx hb dX5_storm_61 (lv_at hl 0 rfl) ?_
      refine lv_if_eq (tgt := 73) hx hb dX5_storm_63 (by decide) (fun c0 => absurd c0 (by decide)) (fun _ => ?_)
      refine lv_aload_n hx hb dX5_storm_66 rfl (lv_at hl 1 rfl) ?_
      refine lv_iload hx hb dX5_storm_67 (lv_at hl 0 rfl) ?_
      obtain ⟨a_4, ha_4, hf⟩ := bd_e hf
      refine Ct.callV (As := [.int (-4 : Int32)]) (rest := []) (st1 := [.long a_4.1]) (c_X5_lowestOf l D cI A M (-4 : Int32) a_4 ha_4) hx hb hml hown hts (cwV 1 hts gX5_storm_X5_lowestOf rfl rfl rfl hd_X5_lowestOf ⟨Nat.le_of_ble_eq_true rfl, Nat.le_of_ble_eq_true rfl⟩) (va_recv hK hP (ci := 5) (q0 := 0) rfl cM_at0) (Ln.id rfl) hA hK hP hD hS rfl hl.1 rfl rfl (Nat.le_of_ble_eq_true rfl) dX5_storm_69 (fun H locs hP hD hS => ?_)
      replace hP : va_P D vwCl (cM cI A a_4.2) H := hP
      replace hD : va_D AA (cM cI A a_4.2) := hD
      exact hend (a_4.1, a_4.2) H locs _ _ hf hP hS dX5_storm_72
    · replace hf := if_f c_3 hf
      refine lv_iload_n hx hb dX5_storm_16 rfl (lv_at hl 3 rfl) ?_
      refine lv_iconst (v := 2) hx hb dX5_storm_17 (by decide) ?_
      refine lv_icmp_ge (tgt := 26) hx hb dX5_storm_18 (by decide) (fun c_5 => ?_) (fun c_5 => ?_)
      · replace hf := if_t c_5 hf
        refine lv_iload_n hx hb dX5_storm_26 rfl (lv_at hl 2 rfl) ?_
        refine lv_bipush (v := 7) hx hb dX5_storm_27 (by decide +kernel) ?_
        refine lv_icmp_gt (tgt := 38) hx hb dX5_storm_29 (by decide) (fun c_6 => ?_) (fun c_6 => ?_)
        · replace hf := if_t c_6 hf
          refine lv_bipush (v := -6) hx hb dX5_storm_38 (by decide +kernel) ?_
          refine lv_goto (tgt := 59) hx hb dX5_storm_40 (by decide) ?_
          refine lv_istore (lv' := [(5, .int (-6 : Int32)), (0, .ref (A 0)), (1, .int p1), (2, .int p2), (3, .int p3), (4, .int p4)]) hx hb dX5_storm_59 hl (by decide) rfl (fun ls hl => ?_)
          refine lv_iload hx hb dX5_storm_61 (lv_at hl 0 rfl) ?_
          refine lv_if_eq (tgt := 73) hx hb dX5_storm_63 (by decide) (fun c0 => absurd c0 (by decide)) (fun _ => ?_)
          refine lv_aload_n hx hb dX5_storm_66 rfl (lv_at hl 1 rfl) ?_
          refine lv_iload hx hb dX5_storm_67 (lv_at hl 0 rfl) ?_
          obtain ⟨a_7, ha_7, hf⟩ := bd_e hf
          refine Ct.callV (As := [.int (-6 : Int32)]) (rest := []) (st1 := [.long a_7.1]) (c_X5_lowestOf l D cI A M (-6 : Int32) a_7 ha_7) hx hb hml hown hts (cwV 1 hts gX5_storm_X5_lowestOf rfl rfl rfl hd_X5_lowestOf ⟨Nat.le_of_ble_eq_true rfl, Nat.le_of_ble_eq_true rfl⟩) (va_recv hK hP (ci := 5) (q0 := 0) rfl cM_at0) (Ln.id rfl) hA hK hP hD hS rfl hl.1 rfl rfl (Nat.le_of_ble_eq_true rfl) dX5_storm_69 (fun H locs hP hD hS => ?_)
          replace hP : va_P D vwCl (cM cI A a_7.2) H := hP
          replace hD : va_D AA (cM cI A a_7.2) := hD
          exact hend (a_7.1, a_7.2) H locs _ _ hf hP hS dX5_storm_72
        · replace hf := if_f c_6 hf
          refine lv_iload_n hx hb dX5_storm_32 rfl (lv_at hl 3 rfl) ?_
          refine lv_bipush (v := 20) hx hb dX5_storm_33 (by decide +kernel) ?_
          refine lv_icmp_le (tgt := 43) hx hb dX5_storm_35 (by decide) (fun c_8 => ?_) (fun c_8 => ?_)
          · replace hf := if_t c_8 hf
            refine lv_iload hx hb dX5_storm_43 (lv_at hl 4 rfl) ?_
            refine lv_iconst (v := 0) hx hb dX5_storm_45 (by decide) ?_
            refine lv_iconst (v := 1) hx hb dX5_storm_46 (by decide) ?_
            obtain ⟨a_9, ha_9, hf⟩ := bd_e hf
            refine Ct.callS (As := [.int p4, .int (0 : Int32), .int (1 : Int32)]) (rest := []) (st1 := [.int a_9]) (c_X5_isIn l D cI  p4 (0 : Int32) (1 : Int32) a_9 ha_9) hx hb hml hown hts (va_cwS 3 hts gX5_storm_X5_isIn rfl rfl rfl hd_X5_isIn ⟨Nat.le_of_ble_eq_true rfl, Nat.le_of_ble_eq_true rfl⟩) Ln.nil hA hK hP hD hS rfl hl.1 rfl rfl (Nat.le_of_ble_eq_true rfl) dX5_storm_47 (fun H locs hP hD hS => ?_)
            refine lv_if_ne (tgt := 58) hx hb dX5_storm_50 (by decide) (fun c_10 => ?_) (fun c_10 => ?_)
            · replace hf := if_f c_10 hf
              refine lv_iconst (v := 0) hx hb dX5_storm_58 (by decide) ?_
              refine lv_istore (lv' := [(5, .int (0 : Int32)), (0, .ref (A 0)), (1, .int p1), (2, .int p2), (3, .int p3), (4, .int p4)]) hx hb dX5_storm_59 hl (by decide) rfl (fun ls hl => ?_)
              refine lv_iload hx hb dX5_storm_61 (lv_at hl 0 rfl) ?_
              refine lv_if_eq (tgt := 73) hx hb dX5_storm_63 (by decide) (fun _ => ?_) (fun c0 => absurd c0 (by decide))
              refine lv_lconst (v := 0) hx hb dX5_storm_73 (by decide) ?_
              refine lv_lstore (lv' := [(6, .long (0 : Int64)), (5, .int (0 : Int32)), (0, .ref (A 0)), (1, .int p1), (2, .int p2), (3, .int p3), (4, .int p4)]) hx hb dX5_storm_74 hl (by decide) rfl (fun ls hl => ?_)
              refine lv_lconst (v := 1) hx hb dX5_storm_76 (by decide) ?_
              refine lv_lstore (lv' := [(8, .long (1 : Int64)), (6, .long (0 : Int64)), (5, .int (0 : Int32)), (0, .ref (A 0)), (1, .int p1), (2, .int p2), (3, .int p3), (4, .int p4)]) hx hb dX5_storm_77 hl (by decide) rfl (fun ls hl => ?_)
              refine lv_iconst (v := 0) hx hb dX5_storm_79 (by decide) ?_
              refine lv_istore (lv' := [(10, .int (0 : Int32)), (8, .long (1 : Int64)), (6, .long (0 : Int64)), (5, .int (0 : Int32)), (0, .ref (A 0)), (1, .int p1), (2, .int p2), (3, .int p3), (4, .int p4)]) hx hb dX5_storm_80 hl (by decide) rfl (fun ls hl => ?_)
              refine lp_ind (P := fun (q82 : Int64 × Int32) => ∀ (H : Heap) (locs : List Loc) (ls : Array Slot), va_P D vwCl (cM cI A M) H → va_D AA (cM cI A M) → va_S AA s.heap H locs → lv_has ls 14 [(0, .ref (A 0)), (1, .int p1), (2, .int p2), (3, .int p3), (4, .int p4), (6, .long (0 : Int64)), (8, .long q82.1), (10, .int q82.2)] → W p l e rm_X5_storm s m args below meth c H locs 0 0 Q (F0 m 82 ls [])) hf ?_ H locs ls hP hD hS (lv_sub hl [4, 5, 6, 7, 8, 2, 1, 0] rfl)
              clear hf hP hD hS hl
              intro nx82 ih82 q82 hf H locs ls hP hD hS hl
              refine lv_iload hx hb dX5_storm_82 (lv_at hl 7 rfl) ?_
              refine lv_iload_n hx hb dX5_storm_84 rfl (lv_at hl 2 rfl) ?_
              refine lv_icmp_ge (tgt := 101) hx hb dX5_storm_85 (by decide) (fun c_11 => ?_) (fun c_11 => ?_)
              · replace hf := if_t c_11 hf
                refine lv_iconst (v := 0) hx hb dX5_storm_101 (by decide) ?_
                refine lv_istore (lv' := [(10, .int (0 : Int32)), (0, .ref (A 0)), (1, .int p1), (2, .int p2), (3, .int p3), (4, .int p4), (6, .long (0 : Int64)), (8, .long q82.1)]) hx hb dX5_storm_102 hl (by decide) rfl (fun ls hl => ?_)
                refine lp_ind (P := fun (q104 : Int64 × Int32 × St) => ∀ (H : Heap) (locs : List Loc) (ls : Array Slot), va_P D vwCl (cM cI A q104.2.2) H → va_D AA (cM cI A q104.2.2) → va_S AA s.heap H locs → lv_has ls 14 [(0, .ref (A 0)), (1, .int p1), (2, .int p2), (3, .int p3), (4, .int p4), (6, .long q104.1), (8, .long q82.1), (10, .int q104.2.1)] → W p l e rm_X5_storm s m args below meth c H locs 0 0 Q (F0 m 104 ls [])) hf ?_ H locs ls hP hD hS (lv_sub hl [1, 2, 3, 4, 5, 6, 7, 0] rfl)
                clear hf hP hD hS hl
                intro nx104 ih104 q104 hf H locs ls hP hD hS hl
                refine lv_iload hx hb dX5_storm_104 (lv_at hl 7 rfl) ?_
                refine lv_iconst (v := 1) hx hb dX5_storm_106 (by decide) ?_
                refine lv_iload_n hx hb dX5_storm_107 rfl (lv_at hl 2 rfl) ?_
                refine lv_ishl hx hb dX5_storm_108 ?_
                refine lv_icmp_ge (tgt := 205) hx hb dX5_storm_109 (by decide) (fun c_12 => ?_) (fun c_12 => ?_)
                · replace hf := if_t c_12 hf
                  refine lv_lload hx hb dX5_storm_205 (lv_at hl 5 rfl) ?_
                  refine lv_lload hx hb dX5_storm_207 (lv_at hl 6 rfl) ?_
                  refine lv_iload hx hb dX5_storm_209 (lv_at hl 4 rfl) ?_
                  obtain ⟨a_13, ha_13, hf⟩ := bd_e hf
                  refine Ct.callS (As := [.long q104.1, .long q82.1, .int p4]) (rest := []) (st1 := [.long a_13]) (c_X5_partOf l D cI  q104.1 q82.1 p4 a_13 ha_13) hx hb hml hown hts (va_cwS 3 hts gX5_storm_X5_partOf rfl rfl rfl hd_X5_partOf ⟨Nat.le_of_ble_eq_true rfl, Nat.le_of_ble_eq_true rfl⟩) Ln.nil hA hK hP hD hS rfl hl.1 rfl rfl (Nat.le_of_ble_eq_true rfl) dX5_storm_211 (fun H locs hP hD hS => ?_)
                  exact hend (a_13, q104.2.2) H locs _ _ hf hP hS dX5_storm_214
                · replace hf := if_f c_12 hf
                  refine lv_aload_n hx hb dX5_storm_112 rfl (lv_at hl 0 rfl) ?_
                  obtain ⟨a_14, ha_14, hf⟩ := bd_e hf
                  refine Ct.callV (As := []) (rest := []) (st1 := []) (c_X5_thinks l D cI A q104.2.2 a_14 ha_14) hx hb hml hown hts (cwV 0 hts gX5_storm_X5_thinks rfl rfl rfl hd_X5_thinks ⟨Nat.le_of_ble_eq_true rfl, Nat.le_of_ble_eq_true rfl⟩) (va_recv hK hP (ci := 5) (q0 := 0) rfl cM_at0) (Ln.id rfl) hA hK hP hD hS rfl hl.1 rfl rfl (Nat.le_of_ble_eq_true rfl) dX5_storm_113 (fun H locs hP hD hS => ?_)
                  replace hP : va_P D vwCl (cM cI A a_14) H := hP
                  replace hD : va_D AA (cM cI A a_14) := hD
                  refine lv_lconst (v := 1) hx hb dX5_storm_116 (by decide) ?_
                  refine lv_lstore (lv' := [(11, .long (1 : Int64)), (0, .ref (A 0)), (1, .int p1), (2, .int p2), (3, .int p3), (4, .int p4), (6, .long q104.1), (8, .long q82.1), (10, .int q104.2.1)]) hx hb dX5_storm_117 hl (by decide) rfl (fun ls hl => ?_)
                  refine lv_iconst (v := 0) hx hb dX5_storm_119 (by decide) ?_
                  refine lv_istore (lv' := [(13, .int (0 : Int32)), (11, .long (1 : Int64)), (0, .ref (A 0)), (1, .int p1), (2, .int p2), (3, .int p3), (4, .int p4), (6, .long q104.1), (8, .long q82.1), (10, .int q104.2.1)]) hx hb dX5_storm_120 hl (by decide) rfl (fun ls hl => ?_)
                  refine lp_ind (P := fun (q122 : Int64 × Int32 × St) => ∀ (H : Heap) (locs : List Loc) (ls : Array Slot), va_P D vwCl (cM cI A q122.2.2) H → va_D AA (cM cI A q122.2.2) → va_S AA s.heap H locs → lv_has ls 14 [(0, .ref (A 0)), (1, .int p1), (2, .int p2), (3, .int p3), (4, .int p4), (6, .long q104.1), (8, .long q82.1), (10, .int q104.2.1), (11, .long q122.1), (13, .int q122.2.1)] → W p l e rm_X5_storm s m args below meth c H locs 0 0 Q (F0 m 122 ls [])) hf ?_ H locs ls hP hD hS (lv_sub hl [2, 3, 4, 5, 6, 7, 8, 9, 1, 0] rfl)
                  clear hf hP hD hS hl
                  intro nx122 ih122 q122 hf H locs ls hP hD hS hl
                  refine lv_iload hx hb dX5_storm_122 (lv_at hl 9 rfl) ?_
                  refine lv_iload_n hx hb dX5_storm_124 rfl (lv_at hl 2 rfl) ?_
                  refine lv_icmp_ge (tgt := 175) hx hb dX5_storm_125 (by decide) (fun c_15 => ?_) (fun c_15 => ?_)
                  · replace hf := if_t c_15 hf
                    refine lv_lload hx hb dX5_storm_175 (lv_at hl 5 rfl) ?_
                    refine lv_aload_n hx hb dX5_storm_177 rfl (lv_at hl 0 rfl) ?_
                    refine va_get (D := D) (ci := 5) (v := .ref (A 4)) (C := RX5) (T := TX5) (N := 27) hx hb hts hw5 hown hK hP 0 cM_at0 rfl 3 (by decide) k19 (fun _ h9 => h9) rfl dX5_storm_178 ?_
                    refine lv_iload_n hx hb dX5_storm_181 rfl (lv_at hl 1 rfl) ?_
                    obtain ⟨c_16, hf⟩ := gi_e hf
                    refine va_iald hx hb hK hP 4 0 cM_at4 rfl c_16 dX5_storm_182 ?_
                    refine lv_if_le (tgt := 191) hx hb dX5_storm_183 (by decide) (fun c_17 => ?_) (fun c_17 => ?_)
                    · replace hf := if_t c_17 hf
                      refine lv_lconst (v := 0) hx hb dX5_storm_191 (by decide) ?_
                      refine lv_ladd hx hb dX5_storm_192 ?_
                      refine lv_topl (fun v_18 ev_18 => ?_)
                      replace hf := nm_at ev_18 hf
                      refine lv_lstore (lv' := [(6, .long v_18), (0, .ref (A 0)), (1, .int p1), (2, .int p2), (3, .int p3), (4, .int p4), (8, .long q82.1), (10, .int q104.2.1), (11, .long q122.1), (13, .int q122.2.1)]) hx hb dX5_storm_193 hl (by decide) rfl (fun ls hl => ?_)
                      refine lv_aload_n hx hb dX5_storm_195 rfl (lv_at hl 1 rfl) ?_
                      obtain ⟨a_19, ha_19, hf⟩ := bd_e hf
                      refine Ct.callV (As := []) (rest := []) (st1 := []) (c_X5_forgets l D cI A q122.2.2 a_19 ha_19) hx hb hml hown hts (cwV 0 hts gX5_storm_X5_forgets rfl rfl rfl hd_X5_forgets ⟨Nat.le_of_ble_eq_true rfl, Nat.le_of_ble_eq_true rfl⟩) (va_recv hK hP (ci := 5) (q0 := 0) rfl cM_at0) (Ln.id rfl) hA hK hP hD hS rfl hl.1 rfl rfl (Nat.le_of_ble_eq_true rfl) dX5_storm_196 (fun H locs hP hD hS => ?_)
                      replace hP : va_P D vwCl (cM cI A a_19) H := hP
                      replace hD : va_D AA (cM cI A a_19) := hD
                      obtain ⟨v_20, ev_20, hf⟩ := nm_e hf
                      refine lv_iinc (v := v_20) (lv' := [(10, .int v_20), (6, .long v_18), (0, .ref (A 0)), (1, .int p1), (2, .int p2), (3, .int p3), (4, .int p4), (8, .long q82.1), (11, .long q122.1), (13, .int q122.2.1)]) hx hb dX5_storm_199 hl (k := 7) rfl (by rw [ev_20]; rfl) (by decide) rfl (fun ls hl => ?_)
                      refine lv_goto (tgt := 104) hx hb dX5_storm_202 (by decide) ?_
                      exact ih104 (v_18, v_20, a_19) hf H locs ls hP hD hS (lv_sub hl [2, 3, 4, 5, 6, 1, 7, 0] rfl)
                    · replace hf := if_f c_17 hf
                      refine lv_lload hx hb dX5_storm_186 (lv_at hl 8 rfl) ?_
                      refine lv_goto (tgt := 192) hx hb dX5_storm_188 (by decide) ?_
                      refine lv_ladd hx hb dX5_storm_192 ?_
                      refine lv_topl (fun v_21 ev_21 => ?_)
                      replace hf := nm_at ev_21 hf
                      refine lv_lstore (lv' := [(6, .long v_21), (0, .ref (A 0)), (1, .int p1), (2, .int p2), (3, .int p3), (4, .int p4), (8, .long q82.1), (10, .int q104.2.1), (11, .long q122.1), (13, .int q122.2.1)]) hx hb dX5_storm_193 hl (by decide) rfl (fun ls hl => ?_)
                      refine lv_aload_n hx hb dX5_storm_195 rfl (lv_at hl 1 rfl) ?_
                      obtain ⟨a_22, ha_22, hf⟩ := bd_e hf
                      refine Ct.callV (As := []) (rest := []) (st1 := []) (c_X5_forgets l D cI A q122.2.2 a_22 ha_22) hx hb hml hown hts (cwV 0 hts gX5_storm_X5_forgets rfl rfl rfl hd_X5_forgets ⟨Nat.le_of_ble_eq_true rfl, Nat.le_of_ble_eq_true rfl⟩) (va_recv hK hP (ci := 5) (q0 := 0) rfl cM_at0) (Ln.id rfl) hA hK hP hD hS rfl hl.1 rfl rfl (Nat.le_of_ble_eq_true rfl) dX5_storm_196 (fun H locs hP hD hS => ?_)
                      replace hP : va_P D vwCl (cM cI A a_22) H := hP
                      replace hD : va_D AA (cM cI A a_22) := hD
                      obtain ⟨v_23, ev_23, hf⟩ := nm_e hf
                      refine lv_iinc (v := v_23) (lv' := [(10, .int v_23), (6, .long v_21), (0, .ref (A 0)), (1, .int p1), (2, .int p2), (3, .int p3), (4, .int p4), (8, .long q82.1), (11, .long q122.1), (13, .int q122.2.1)]) hx hb dX5_storm_199 hl (k := 7) rfl (by rw [ev_23]; rfl) (by decide) rfl (fun ls hl => ?_)
                      refine lv_goto (tgt := 104) hx hb dX5_storm_202 (by decide) ?_
                      exact ih104 (v_21, v_23, a_22) hf H locs ls hP hD hS (lv_sub hl [2, 3, 4, 5, 6, 1, 7, 0] rfl)
                  · replace hf := if_f c_15 hf
                    refine lv_lload hx hb dX5_storm_128 (lv_at hl 8 rfl) ?_
                    refine lv_iload hx hb dX5_storm_130 (lv_at hl 7 rfl) ?_
                    refine lv_iload hx hb dX5_storm_132 (lv_at hl 9 rfl) ?_
                    obtain ⟨a_24, ha_24, hf⟩ := bd_e hf
                    refine Ct.callS (As := [.int q104.2.1, .int q122.2.1]) (rest := [.long q122.1]) (st1 := [.int a_24, .long q122.1]) (c_X5_has l D cI  q104.2.1 q122.2.1 a_24 ha_24) hx hb hml hown hts (va_cwS 2 hts gX5_storm_X5_has rfl rfl rfl hd_X5_has ⟨Nat.le_of_ble_eq_true rfl, Nat.le_of_ble_eq_true rfl⟩) Ln.nil hA hK hP hD hS rfl hl.1 rfl rfl (Nat.le_of_ble_eq_true rfl) dX5_storm_134 (fun H locs hP hD hS => ?_)
                    refine lv_if_eq (tgt := 144) hx hb dX5_storm_137 (by decide) (fun c_25 => ?_) (fun c_25 => ?_)
                    · replace hf := if_t c_25 hf
                      refine lv_iload_n hx hb dX5_storm_144 rfl (lv_at hl 3 rfl) ?_
                      refine lv_iconst (v := 1) hx hb dX5_storm_145 (by decide) ?_
                      refine lv_isub hx hb dX5_storm_146 ?_
                      refine lv_i2l (v := ((p3 - (1 : Int32))).toInt64) hx hb dX5_storm_147 rfl ?_
                      refine lv_lmul hx hb dX5_storm_148 ?_
                      refine lv_topl (fun v_26 ev_26 => ?_)
                      replace hf := nm_at ev_26 hf
                      refine lv_lstore (lv' := [(11, .long v_26), (0, .ref (A 0)), (1, .int p1), (2, .int p2), (3, .int p3), (4, .int p4), (6, .long q104.1), (8, .long q82.1), (10, .int q104.2.1), (13, .int q122.2.1)]) hx hb dX5_storm_149 hl (by decide) rfl (fun ls hl => ?_)
                      refine lv_iload hx hb dX5_storm_151 (lv_at hl 8 rfl) ?_
                      refine lv_iload hx hb dX5_storm_153 (lv_at hl 9 rfl) ?_
                      obtain ⟨a_27, ha_27, hf⟩ := bd_e hf
                      refine Ct.callS (As := [.int q104.2.1, .int q122.2.1]) (rest := []) (st1 := [.int a_27]) (c_X5_has l D cI  q104.2.1 q122.2.1 a_27 ha_27) hx hb hml hown hts (va_cwS 2 hts gX5_storm_X5_has rfl rfl rfl hd_X5_has ⟨Nat.le_of_ble_eq_true rfl, Nat.le_of_ble_eq_true rfl⟩) Ln.nil hA hK hP hD hS rfl hl.1 rfl rfl (Nat.le_of_ble_eq_true rfl) dX5_storm_155 (fun H locs hP hD hS => ?_)
                      refine lv_if_eq (tgt := 165) hx hb dX5_storm_158 (by decide) (fun c_28 => ?_) (fun c_28 => ?_)
                      · replace hf := if_t c_28 hf
                        refine lv_aload_n hx hb dX5_storm_165 rfl (lv_at hl 1 rfl) ?_
                        obtain ⟨a_29, ha_29, hf⟩ := bd_e hf
                        refine Ct.callV (As := []) (rest := []) (st1 := []) (c_X5_goesTide l D cI A q122.2.2 a_29 ha_29) hx hb hml hown hts (cwV 0 hts gX5_storm_X5_goesTide rfl rfl rfl hd_X5_goesTide ⟨Nat.le_of_ble_eq_true rfl, Nat.le_of_ble_eq_true rfl⟩) (va_recv hK hP (ci := 5) (q0 := 0) rfl cM_at0) (Ln.id rfl) hA hK hP hD hS rfl hl.1 rfl rfl (Nat.le_of_ble_eq_true rfl) dX5_storm_166 (fun H locs hP hD hS => ?_)
                        replace hP : va_P D vwCl (cM cI A a_29) H := hP
                        replace hD : va_D AA (cM cI A a_29) := hD
                        obtain ⟨v_30, ev_30, hf⟩ := nm_e hf
                        refine lv_iinc (v := v_30) (lv' := [(13, .int v_30), (11, .long v_26), (0, .ref (A 0)), (1, .int p1), (2, .int p2), (3, .int p3), (4, .int p4), (6, .long q104.1), (8, .long q82.1), (10, .int q104.2.1)]) hx hb dX5_storm_169 hl (k := 9) rfl (by rw [ev_30]; rfl) (by decide) rfl (fun ls hl => ?_)
                        refine lv_goto (tgt := 122) hx hb dX5_storm_172 (by decide) ?_
                        exact ih122 (v_26, v_30, a_29) hf H locs ls hP hD hS (lv_sub hl [2, 3, 4, 5, 6, 7, 8, 9, 1, 0] rfl)
                      · replace hf := if_f c_28 hf
                        refine lv_aload_n hx hb dX5_storm_161 rfl (lv_at hl 1 rfl) ?_
                        obtain ⟨a_31, ha_31, hf⟩ := bd_e hf
                        refine Ct.callV (As := []) (rest := []) (st1 := []) (c_X5_storms l D cI A q122.2.2 a_31 ha_31) hx hb hml hown hts (cwV 0 hts gX5_storm_X5_storms rfl rfl rfl hd_X5_storms ⟨Nat.le_of_ble_eq_true rfl, Nat.le_of_ble_eq_true rfl⟩) (va_recv hK hP (ci := 5) (q0 := 0) rfl cM_at0) (Ln.id rfl) hA hK hP hD hS rfl hl.1 rfl rfl (Nat.le_of_ble_eq_true rfl) dX5_storm_162 (fun H locs hP hD hS => ?_)
                        replace hP : va_P D vwCl (cM cI A a_31) H := hP
                        replace hD : va_D AA (cM cI A a_31) := hD
                        refine lv_aload_n hx hb dX5_storm_165 rfl (lv_at hl 1 rfl) ?_
                        obtain ⟨a_32, ha_32, hf⟩ := bd_e hf
                        refine Ct.callV (As := []) (rest := []) (st1 := []) (c_X5_goesTide l D cI A a_31 a_32 ha_32) hx hb hml hown hts (cwV 0 hts gX5_storm_X5_goesTide rfl rfl rfl hd_X5_goesTide ⟨Nat.le_of_ble_eq_true rfl, Nat.le_of_ble_eq_true rfl⟩) (va_recv hK hP (ci := 5) (q0 := 0) rfl cM_at0) (Ln.id rfl) hA hK hP hD hS rfl hl.1 rfl rfl (Nat.le_of_ble_eq_true rfl) dX5_storm_166 (fun H locs hP hD hS => ?_)
                        replace hP : va_P D vwCl (cM cI A a_32) H := hP
                        replace hD : va_D AA (cM cI A a_32) := hD
                        obtain ⟨v_33, ev_33, hf⟩ := nm_e hf
                        refine lv_iinc (v := v_33) (lv' := [(13, .int v_33), (11, .long v_26), (0, .ref (A 0)), (1, .int p1), (2, .int p2), (3, .int p3), (4, .int p4), (6, .long q104.1), (8, .long q82.1), (10, .int q104.2.1)]) hx hb dX5_storm_169 hl (k := 9) rfl (by rw [ev_33]; rfl) (by decide) rfl (fun ls hl => ?_)
                        refine lv_goto (tgt := 122) hx hb dX5_storm_172 (by decide) ?_
                        exact ih122 (v_26, v_33, a_32) hf H locs ls hP hD hS (lv_sub hl [2, 3, 4, 5, 6, 7, 8, 9, 1, 0] rfl)
                    · replace hf := if_f c_25 hf
                      refine lv_lconst (v := 1) hx hb dX5_storm_140 (by decide) ?_
                      refine lv_goto (tgt := 148) hx hb dX5_storm_141 (by decide) ?_
                      refine lv_lmul hx hb dX5_storm_148 ?_
                      refine lv_topl (fun v_34 ev_34 => ?_)
                      replace hf := nm_at ev_34 hf
                      refine lv_lstore (lv' := [(11, .long v_34), (0, .ref (A 0)), (1, .int p1), (2, .int p2), (3, .int p3), (4, .int p4), (6, .long q104.1), (8, .long q82.1), (10, .int q104.2.1), (13, .int q122.2.1)]) hx hb dX5_storm_149 hl (by decide) rfl (fun ls hl => ?_)
                      refine lv_iload hx hb dX5_storm_151 (lv_at hl 8 rfl) ?_
                      refine lv_iload hx hb dX5_storm_153 (lv_at hl 9 rfl) ?_
                      obtain ⟨a_35, ha_35, hf⟩ := bd_e hf
                      refine Ct.callS (As := [.int q104.2.1, .int q122.2.1]) (rest := []) (st1 := [.int a_35]) (c_X5_has l D cI  q104.2.1 q122.2.1 a_35 ha_35) hx hb hml hown hts (va_cwS 2 hts gX5_storm_X5_has rfl rfl rfl hd_X5_has ⟨Nat.le_of_ble_eq_true rfl, Nat.le_of_ble_eq_true rfl⟩) Ln.nil hA hK hP hD hS rfl hl.1 rfl rfl (Nat.le_of_ble_eq_true rfl) dX5_storm_155 (fun H locs hP hD hS => ?_)
                      refine lv_if_eq (tgt := 165) hx hb dX5_storm_158 (by decide) (fun c_36 => ?_) (fun c_36 => ?_)
                      · replace hf := if_t c_36 hf
                        refine lv_aload_n hx hb dX5_storm_165 rfl (lv_at hl 1 rfl) ?_
                        obtain ⟨a_37, ha_37, hf⟩ := bd_e hf
                        refine Ct.callV (As := []) (rest := []) (st1 := []) (c_X5_goesTide l D cI A q122.2.2 a_37 ha_37) hx hb hml hown hts (cwV 0 hts gX5_storm_X5_goesTide rfl rfl rfl hd_X5_goesTide ⟨Nat.le_of_ble_eq_true rfl, Nat.le_of_ble_eq_true rfl⟩) (va_recv hK hP (ci := 5) (q0 := 0) rfl cM_at0) (Ln.id rfl) hA hK hP hD hS rfl hl.1 rfl rfl (Nat.le_of_ble_eq_true rfl) dX5_storm_166 (fun H locs hP hD hS => ?_)
                        replace hP : va_P D vwCl (cM cI A a_37) H := hP
                        replace hD : va_D AA (cM cI A a_37) := hD
                        obtain ⟨v_38, ev_38, hf⟩ := nm_e hf
                        refine lv_iinc (v := v_38) (lv' := [(13, .int v_38), (11, .long v_34), (0, .ref (A 0)), (1, .int p1), (2, .int p2), (3, .int p3), (4, .int p4), (6, .long q104.1), (8, .long q82.1), (10, .int q104.2.1)]) hx hb dX5_storm_169 hl (k := 9) rfl (by rw [ev_38]; rfl) (by decide) rfl (fun ls hl => ?_)
                        refine lv_goto (tgt := 122) hx hb dX5_storm_172 (by decide) ?_
                        exact ih122 (v_34, v_38, a_37) hf H locs ls hP hD hS (lv_sub hl [2, 3, 4, 5, 6, 7, 8, 9, 1, 0] rfl)
                      · replace hf := if_f c_36 hf
                        refine lv_aload_n hx hb dX5_storm_161 rfl (lv_at hl 1 rfl) ?_
                        obtain ⟨a_39, ha_39, hf⟩ := bd_e hf
                        refine Ct.callV (As := []) (rest := []) (st1 := []) (c_X5_storms l D cI A q122.2.2 a_39 ha_39) hx hb hml hown hts (cwV 0 hts gX5_storm_X5_storms rfl rfl rfl hd_X5_storms ⟨Nat.le_of_ble_eq_true rfl, Nat.le_of_ble_eq_true rfl⟩) (va_recv hK hP (ci := 5) (q0 := 0) rfl cM_at0) (Ln.id rfl) hA hK hP hD hS rfl hl.1 rfl rfl (Nat.le_of_ble_eq_true rfl) dX5_storm_162 (fun H locs hP hD hS => ?_)
                        replace hP : va_P D vwCl (cM cI A a_39) H := hP
                        replace hD : va_D AA (cM cI A a_39) := hD
                        refine lv_aload_n hx hb dX5_storm_165 rfl (lv_at hl 1 rfl) ?_
                        obtain ⟨a_40, ha_40, hf⟩ := bd_e hf
                        refine Ct.callV (As := []) (rest := []) (st1 := []) (c_X5_goesTide l D cI A a_39 a_40 ha_40) hx hb hml hown hts (cwV 0 hts gX5_storm_X5_goesTide rfl rfl rfl hd_X5_goesTide ⟨Nat.le_of_ble_eq_true rfl, Nat.le_of_ble_eq_true rfl⟩) (va_recv hK hP (ci := 5) (q0 := 0) rfl cM_at0) (Ln.id rfl) hA hK hP hD hS rfl hl.1 rfl rfl (Nat.le_of_ble_eq_true rfl) dX5_storm_166 (fun H locs hP hD hS => ?_)
                        replace hP : va_P D vwCl (cM cI A a_40) H := hP
                        replace hD : va_D AA (cM cI A a_40) := hD
                        obtain ⟨v_41, ev_41, hf⟩ := nm_e hf
                        refine lv_iinc (v := v_41) (lv' := [(13, .int v_41), (11, .long v_34), (0, .ref (A 0)), (1, .int p1), (2, .int p2), (3, .int p3), (4, .int p4), (6, .long q104.1), (8, .long q82.1), (10, .int q104.2.1)]) hx hb dX5_storm_169 hl (k := 9) rfl (by rw [ev_41]; rfl) (by decide) rfl (fun ls hl => ?_)
                        refine lv_goto (tgt := 122) hx hb dX5_storm_172 (by decide) ?_
                        exact ih122 (v_34, v_41, a_40) hf H locs ls hP hD hS (lv_sub hl [2, 3, 4, 5, 6, 7, 8, 9, 1, 0] rfl)
              · replace hf := if_f c_11 hf
                refine lv_lload hx hb dX5_storm_88 (lv_at hl 6 rfl) ?_
                refine lv_iload_n hx hb dX5_storm_90 rfl (lv_at hl 3 rfl) ?_
                refine lv_i2l (v := (p3).toInt64) hx hb dX5_storm_91 rfl ?_
                refine lv_lmul hx hb dX5_storm_92 ?_
                refine lv_topl (fun v_42 ev_42 => ?_)
                replace hf := nm_at ev_42 hf
                refine lv_lstore (lv' := [(8, .long v_42), (0, .ref (A 0)), (1, .int p1), (2, .int p2), (3, .int p3), (4, .int p4), (6, .long (0 : Int64)), (10, .int q82.2)]) hx hb dX5_storm_93 hl (by decide) rfl (fun ls hl => ?_)
                obtain ⟨v_43, ev_43, hf⟩ := nm_e hf
                refine lv_iinc (v := v_43) (lv' := [(10, .int v_43), (8, .long v_42), (0, .ref (A 0)), (1, .int p1), (2, .int p2), (3, .int p3), (4, .int p4), (6, .long (0 : Int64))]) hx hb dX5_storm_95 hl (k := 7) rfl (by rw [ev_43]; rfl) (by decide) rfl (fun ls hl => ?_)
                refine lv_goto (tgt := 82) hx hb dX5_storm_98 (by decide) ?_
                exact ih82 (v_42, v_43) hf H locs ls hP hD hS (lv_sub hl [2, 3, 4, 5, 6, 7, 1, 0] rfl)
            · replace hf := if_t c_10 hf
              refine lv_bipush (v := -2) hx hb dX5_storm_53 (by decide +kernel) ?_
              refine lv_goto (tgt := 59) hx hb dX5_storm_55 (by decide) ?_
              refine lv_istore (lv' := [(5, .int (-2 : Int32)), (0, .ref (A 0)), (1, .int p1), (2, .int p2), (3, .int p3), (4, .int p4)]) hx hb dX5_storm_59 hl (by decide) rfl (fun ls hl => ?_)
              refine lv_iload hx hb dX5_storm_61 (lv_at hl 0 rfl) ?_
              refine lv_if_eq (tgt := 73) hx hb dX5_storm_63 (by decide) (fun c0 => absurd c0 (by decide)) (fun _ => ?_)
              refine lv_aload_n hx hb dX5_storm_66 rfl (lv_at hl 1 rfl) ?_
              refine lv_iload hx hb dX5_storm_67 (lv_at hl 0 rfl) ?_
              obtain ⟨a_44, ha_44, hf⟩ := bd_e hf
              refine Ct.callV (As := [.int (-2 : Int32)]) (rest := []) (st1 := [.long a_44.1]) (c_X5_lowestOf l D cI A M (-2 : Int32) a_44 ha_44) hx hb hml hown hts (cwV 1 hts gX5_storm_X5_lowestOf rfl rfl rfl hd_X5_lowestOf ⟨Nat.le_of_ble_eq_true rfl, Nat.le_of_ble_eq_true rfl⟩) (va_recv hK hP (ci := 5) (q0 := 0) rfl cM_at0) (Ln.id rfl) hA hK hP hD hS rfl hl.1 rfl rfl (Nat.le_of_ble_eq_true rfl) dX5_storm_69 (fun H locs hP hD hS => ?_)
              replace hP : va_P D vwCl (cM cI A a_44.2) H := hP
              replace hD : va_D AA (cM cI A a_44.2) := hD
              exact hend (a_44.1, a_44.2) H locs _ _ hf hP hS dX5_storm_72
          · replace hf := if_f c_8 hf
            refine lv_bipush (v := -6) hx hb dX5_storm_38 (by decide +kernel) ?_
            refine lv_goto (tgt := 59) hx hb dX5_storm_40 (by decide) ?_
            refine lv_istore (lv' := [(5, .int (-6 : Int32)), (0, .ref (A 0)), (1, .int p1), (2, .int p2), (3, .int p3), (4, .int p4)]) hx hb dX5_storm_59 hl (by decide) rfl (fun ls hl => ?_)
            refine lv_iload hx hb dX5_storm_61 (lv_at hl 0 rfl) ?_
            refine lv_if_eq (tgt := 73) hx hb dX5_storm_63 (by decide) (fun c0 => absurd c0 (by decide)) (fun _ => ?_)
            refine lv_aload_n hx hb dX5_storm_66 rfl (lv_at hl 1 rfl) ?_
            refine lv_iload hx hb dX5_storm_67 (lv_at hl 0 rfl) ?_
            obtain ⟨a_45, ha_45, hf⟩ := bd_e hf
            refine Ct.callV (As := [.int (-6 : Int32)]) (rest := []) (st1 := [.long a_45.1]) (c_X5_lowestOf l D cI A M (-6 : Int32) a_45 ha_45) hx hb hml hown hts (cwV 1 hts gX5_storm_X5_lowestOf rfl rfl rfl hd_X5_lowestOf ⟨Nat.le_of_ble_eq_true rfl, Nat.le_of_ble_eq_true rfl⟩) (va_recv hK hP (ci := 5) (q0 := 0) rfl cM_at0) (Ln.id rfl) hA hK hP hD hS rfl hl.1 rfl rfl (Nat.le_of_ble_eq_true rfl) dX5_storm_69 (fun H locs hP hD hS => ?_)
            replace hP : va_P D vwCl (cM cI A a_45.2) H := hP
            replace hD : va_D AA (cM cI A a_45.2) := hD
            exact hend (a_45.1, a_45.2) H locs _ _ hf hP hS dX5_storm_72
      · replace hf := if_f c_5 hf
        refine lv_bipush (v := -4) hx hb dX5_storm_21 (by decide +kernel) ?_
        refine lv_goto (tgt := 59) hx hb dX5_storm_23 (by decide) ?_
        refine lv_istore (lv' := [(5, .int (-4 : Int32)), (0, .ref (A 0)), (1, .int p1), (2, .int p2), (3, .int p3), (4, .int p4)]) hx hb dX5_storm_59 hl (by decide) rfl (fun ls hl => ?_)
        refine lv_iload hx hb dX5_storm_61 (lv_at hl 0 rfl) ?_
        refine lv_if_eq (tgt := 73) hx hb dX5_storm_63 (by decide) (fun c0 => absurd c0 (by decide)) (fun _ => ?_)
        refine lv_aload_n hx hb dX5_storm_66 rfl (lv_at hl 1 rfl) ?_
        refine lv_iload hx hb dX5_storm_67 (lv_at hl 0 rfl) ?_
        obtain ⟨a_46, ha_46, hf⟩ := bd_e hf
        refine Ct.callV (As := [.int (-4 : Int32)]) (rest := []) (st1 := [.long a_46.1]) (c_X5_lowestOf l D cI A M (-4 : Int32) a_46 ha_46) hx hb hml hown hts (cwV 1 hts gX5_storm_X5_lowestOf rfl rfl rfl hd_X5_lowestOf ⟨Nat.le_of_ble_eq_true rfl, Nat.le_of_ble_eq_true rfl⟩) (va_recv hK hP (ci := 5) (q0 := 0) rfl cM_at0) (Ln.id rfl) hA hK hP hD hS rfl hl.1 rfl rfl (Nat.le_of_ble_eq_true rfl) dX5_storm_69 (fun H locs hP hD hS => ?_)
        replace hP : va_P D vwCl (cM cI A a_46.2) H := hP
        replace hD : va_D AA (cM cI A a_46.2) := hD
        exact hend (a_46.1, a_46.2) H locs _ _ hf hP hS dX5_storm_72
  · replace hf := if_t c_2 hf
    refine lv_iconst (v := -1) hx hb dX5_storm_8 (by decide) ?_
    refine lv_goto (tgt := 59) hx hb dX5_storm_9 (by decide) ?_
    refine lv_istore (lv' := [(5, .int (-1 : Int32)), (0, .ref (A 0)), (1, .int p1), (2, .int p2), (3, .int p3), (4, .int p4)]) hx hb dX5_storm_59 hl (by decide) rfl (fun ls hl => ?_)
    refine lv_iload hx hb dX5_storm_61 (lv_at hl 0 rfl) ?_
    refine lv_if_eq (tgt := 73) hx hb dX5_storm_63 (by decide) (fun c0 => absurd c0 (by decide)) (fun _ => ?_)
    refine lv_aload_n hx hb dX5_storm_66 rfl (lv_at hl 1 rfl) ?_
    refine lv_iload hx hb dX5_storm_67 (lv_at hl 0 rfl) ?_
    obtain ⟨a_47, ha_47, hf⟩ := bd_e hf
    refine Ct.callV (As := [.int (-1 : Int32)]) (rest := []) (st1 := [.long a_47.1]) (c_X5_lowestOf l D cI A M (-1 : Int32) a_47 ha_47) hx hb hml hown hts (cwV 1 hts gX5_storm_X5_lowestOf rfl rfl rfl hd_X5_lowestOf ⟨Nat.le_of_ble_eq_true rfl, Nat.le_of_ble_eq_true rfl⟩) (va_recv hK hP (ci := 5) (q0 := 0) rfl cM_at0) (Ln.id rfl) hA hK hP hD hS rfl hl.1 rfl rfl (Nat.le_of_ble_eq_true rfl) dX5_storm_69 (fun H locs hP hD hS => ?_)
    replace hP : va_P D vwCl (cM cI A a_47.2) H := hP
    replace hD : va_D AA (cM cI A a_47.2) := hD
    exact hend (a_47.1, a_47.2) H locs _ _ hf hP hS dX5_storm_72

def f_X5_mean (M : St) (p1 : Int32) : Option (Int64 × St) := (bd (f_X5_isIn p1 (0 : Int32) (1 : Int32)) fun a_1 => (if a_1 = 0 then (bd (f_X5_lowestOf M (-2 : Int32)) fun a_6 => (some (a_6.1, a_6.2))) else (if (M 16 1) = 0 then (some ((p1).toInt64, M)) else (bd (f_X5_allSins M) fun a_4 => (bd (f_X5_partOf (a_4).toInt64 ((M 16 1)).toInt64 p1) fun a_5 => (some (a_5, M)))))))
def rm_X5_mean : Room := { frames := 2, cells := 0, slots := 0, locals := 53 }
theorem hd_X5_mean : yX5_mean.cls = RX5 ∧ yX5_mean.cls ≠ "java/lang/invoke/MethodHandle" ∧ yX5_mean.cls ≠ "java/lang/invoke/VarHandle" ∧ (parseMethodDescriptor yX5_mean.desc).map (fun d => d.parameters.length) = some 1 := by decide +kernel
set_option maxRecDepth 100000 in
set_option maxHeartbeats 4000000 in
theorem c_X5_mean (l : Launch) (D : va_G) (cI : ClassId) (A : Nat → Nat) (M : St) (p1 : Int32) (r : Int64 × St) (hf : f_X5_mean M p1 = some r) : Ct l yX5_mean wsX5_mean rm_X5_mean D cI (cM cI A M) (cM cI A r.2) [.ref (A 0), .int p1] (some (.long r.1)) := by
  unfold f_X5_mean at hf
  refine Ct.ofL (cc := cX5_mean) (maxL := 2) (by decide +kernel) rfl (Nat.le_of_ble_eq_true rfl) ?_
  intro p e s m args below meth c AA Q H locs ls hx hb hml hown hts hA hK hP hD hS hl hend0
  have hend : ∀ (r1 : Int64 × St) (H : Heap) (locs : List Loc) (pc : Nat) (ls : Array Slot), some r1 = some r → va_P D vwCl (cM cI A r1.2) H → va_S AA s.heap H locs → decode cX5_mean pc = .ok (.lreturn, 1) → W p l e rm_X5_mean s m args below meth c H locs 0 0 Q (F0 m pc ls [.long r1.1]) := by
    intro r1 H locs pc ls e1 hP hS hd; cases e1; exact hend0 H locs pc ls hP hS hd
  clear hend0
  have hw5 : ∀ w ∈ wsX50, w ∈ wsX5_mean := by decide +kernel
  have k65 := hts (.fieldLink RX5 65 "AnchorsForConfessionModel" "men" "I") (by decide +kernel)
  replace hl : lv_has ls 2 [(0, .ref (A 0)), (1, .int p1)] := hl
  refine lv_iload_n hx hb dX5_mean_0 rfl (lv_at hl 1 rfl) ?_
  refine lv_iconst (v := 0) hx hb dX5_mean_1 (by decide) ?_
  refine lv_iconst (v := 1) hx hb dX5_mean_2 (by decide) ?_
  obtain ⟨a_1, ha_1, hf⟩ := bd_e hf
  refine Ct.callS (As := [.int p1, .int (0 : Int32), .int (1 : Int32)]) (rest := []) (st1 := [.int a_1]) (c_X5_isIn l D cI  p1 (0 : Int32) (1 : Int32) a_1 ha_1) hx hb hml hown hts (va_cwS 3 hts gX5_mean_X5_isIn rfl rfl rfl hd_X5_isIn ⟨Nat.le_of_ble_eq_true rfl, Nat.le_of_ble_eq_true rfl⟩) Ln.nil hA hK hP hD hS rfl hl.1 rfl rfl (Nat.le_of_ble_eq_true rfl) dX5_mean_3 (fun H locs hP hD hS => ?_)
  refine lv_if_ne (tgt := 16) hx hb dX5_mean_6 (by decide) (fun c_2 => ?_) (fun c_2 => ?_)
  · replace hf := if_f c_2 hf
    refine lv_aload_n hx hb dX5_mean_16 rfl (lv_at hl 0 rfl) ?_
    refine va_get (D := D) (ci := 5) (v := .int (M 16 1)) (C := RX5) (T := TX5) (N := 27) hx hb hts hw5 hown hK hP 0 cM_at0 rfl 9 (by decide) k65 (fun _ h9 => h9) rfl dX5_mean_17 ?_
    refine lv_if_ne (tgt := 28) hx hb dX5_mean_20 (by decide) (fun c_3 => ?_) (fun c_3 => ?_)
    · replace hf := if_f c_3 hf
      refine lv_aload_n hx hb dX5_mean_28 rfl (lv_at hl 0 rfl) ?_
      obtain ⟨a_4, ha_4, hf⟩ := bd_e hf
      refine Ct.callV (As := []) (rest := []) (st1 := [.int a_4]) (c_X5_allSins l D cI A M a_4 ha_4) hx hb hml hown hts (cwV 0 hts gX5_mean_X5_allSins rfl rfl rfl hd_X5_allSins ⟨Nat.le_of_ble_eq_true rfl, Nat.le_of_ble_eq_true rfl⟩) (va_recv hK hP (ci := 5) (q0 := 0) rfl cM_at0) (Ln.id rfl) hA hK hP hD hS rfl hl.1 rfl rfl (Nat.le_of_ble_eq_true rfl) dX5_mean_29 (fun H locs hP hD hS => ?_)
      refine lv_i2l (v := (a_4).toInt64) hx hb dX5_mean_32 rfl ?_
      refine lv_aload_n hx hb dX5_mean_33 rfl (lv_at hl 0 rfl) ?_
      refine va_get (D := D) (ci := 5) (v := .int (M 16 1)) (C := RX5) (T := TX5) (N := 27) hx hb hts hw5 hown hK hP 0 cM_at0 rfl 9 (by decide) k65 (fun _ h9 => h9) rfl dX5_mean_34 ?_
      refine lv_i2l (v := ((M 16 1)).toInt64) hx hb dX5_mean_37 rfl ?_
      refine lv_iload_n hx hb dX5_mean_38 rfl (lv_at hl 1 rfl) ?_
      obtain ⟨a_5, ha_5, hf⟩ := bd_e hf
      refine Ct.callS (As := [.long (a_4).toInt64, .long ((M 16 1)).toInt64, .int p1]) (rest := []) (st1 := [.long a_5]) (c_X5_partOf l D cI  (a_4).toInt64 ((M 16 1)).toInt64 p1 a_5 ha_5) hx hb hml hown hts (va_cwS 3 hts gX5_mean_X5_partOf rfl rfl rfl hd_X5_partOf ⟨Nat.le_of_ble_eq_true rfl, Nat.le_of_ble_eq_true rfl⟩) Ln.nil hA hK hP hD hS rfl hl.1 rfl rfl (Nat.le_of_ble_eq_true rfl) dX5_mean_39 (fun H locs hP hD hS => ?_)
      exact hend (a_5, M) H locs _ _ hf hP hS dX5_mean_42
    · replace hf := if_t c_3 hf
      refine lv_iload_n hx hb dX5_mean_23 rfl (lv_at hl 1 rfl) ?_
      refine lv_i2l (v := (p1).toInt64) hx hb dX5_mean_24 rfl ?_
      refine lv_goto (tgt := 42) hx hb dX5_mean_25 (by decide) ?_
      exact hend ((p1).toInt64, M) H locs _ _ hf hP hS dX5_mean_42
  · replace hf := if_t c_2 hf
    refine lv_aload_n hx hb dX5_mean_9 rfl (lv_at hl 0 rfl) ?_
    refine lv_bipush (v := -2) hx hb dX5_mean_10 (by decide +kernel) ?_
    obtain ⟨a_6, ha_6, hf⟩ := bd_e hf
    refine Ct.callV (As := [.int (-2 : Int32)]) (rest := []) (st1 := [.long a_6.1]) (c_X5_lowestOf l D cI A M (-2 : Int32) a_6 ha_6) hx hb hml hown hts (cwV 1 hts gX5_mean_X5_lowestOf rfl rfl rfl hd_X5_lowestOf ⟨Nat.le_of_ble_eq_true rfl, Nat.le_of_ble_eq_true rfl⟩) (va_recv hK hP (ci := 5) (q0 := 0) rfl cM_at0) (Ln.id rfl) hA hK hP hD hS rfl hl.1 rfl rfl (Nat.le_of_ble_eq_true rfl) dX5_mean_12 (fun H locs hP hD hS => ?_)
    replace hP : va_P D vwCl (cM cI A a_6.2) H := hP
    replace hD : va_D AA (cM cI A a_6.2) := hD
    exact hend (a_6.1, a_6.2) H locs _ _ hf hP hS dX5_mean_15

def f_X5_isSoBy (M : St) (p1 : Int32) : Option (Int32 × St) := fzp (bd (f_X5_canTell M p1) fun a_1 => (if a_1 = 0 then (some ((0 : Int32), M)) else (bd (f_X5_thinks M) fun a_3 => (bd (f_X5_tellsOne a_3 p1) fun a_4 => (if (a_4.2 16 0) < (a_4.2 16 10) then (lp (fun (nx39 : (Int32 × Int32) → Option (Int32 × St)) (q39 : Int32 × Int32) => (if (a_4.2 16 10) ≤ q39.2 then (bd (f_X5_forgets a_4.2) fun a_7 => (some (q39.1, a_7))) else (if q39.1 = 0 then (bd (f_X5_forgets a_4.2) fun a_9 => (some (q39.1, a_9))) else (gi q39.2 5 (if (a_4.2 3 (q39.2).toNatClampNeg) ≤ 0 then (gi q39.2 5 (gi q39.2 16 (if (a_4.2 2 (q39.2).toNatClampNeg) = (a_4.2 15 (q39.2).toNatClampNeg) then (nm (q39.2 + (1 : Int32)) fun v_16 => (nx39 ((1 : Int32), v_16))) else (nm (q39.2 + (1 : Int32)) fun v_15 => (nx39 ((0 : Int32), v_15)))))) else (gi q39.2 16 (if (98 : Int32) = (a_4.2 15 (q39.2).toNatClampNeg) then (nm (q39.2 + (1 : Int32)) fun v_20 => (nx39 ((1 : Int32), v_20))) else (nm (q39.2 + (1 : Int32)) fun v_19 => (nx39 ((0 : Int32), v_19)))))))))) 1000 ((0 : Int32), (0 : Int32))) else (lp (fun (nx39 : (Int32 × Int32) → Option (Int32 × St)) (q39 : Int32 × Int32) => (if (a_4.2 16 10) ≤ q39.2 then (bd (f_X5_forgets a_4.2) fun a_22 => (some (q39.1, a_22))) else (if q39.1 = 0 then (bd (f_X5_forgets a_4.2) fun a_24 => (some (q39.1, a_24))) else (gi q39.2 5 (if (a_4.2 3 (q39.2).toNatClampNeg) ≤ 0 then (gi q39.2 5 (gi q39.2 16 (if (a_4.2 2 (q39.2).toNatClampNeg) = (a_4.2 15 (q39.2).toNatClampNeg) then (nm (q39.2 + (1 : Int32)) fun v_31 => (nx39 ((1 : Int32), v_31))) else (nm (q39.2 + (1 : Int32)) fun v_30 => (nx39 ((0 : Int32), v_30)))))) else (gi q39.2 16 (if (98 : Int32) = (a_4.2 15 (q39.2).toNatClampNeg) then (nm (q39.2 + (1 : Int32)) fun v_35 => (nx39 ((1 : Int32), v_35))) else (nm (q39.2 + (1 : Int32)) fun v_34 => (nx39 ((0 : Int32), v_34)))))))))) 1000 ((1 : Int32), (0 : Int32))))))))
def rm_X5_isSoBy : Room := { frames := 4, cells := 0, slots := 0, locals := 88 }
theorem hd_X5_isSoBy : yX5_isSoBy.cls = RX5 ∧ yX5_isSoBy.cls ≠ "java/lang/invoke/MethodHandle" ∧ yX5_isSoBy.cls ≠ "java/lang/invoke/VarHandle" ∧ (parseMethodDescriptor yX5_isSoBy.desc).map (fun d => d.parameters.length) = some 1 := by decide +kernel
set_option maxRecDepth 100000 in
set_option maxHeartbeats 4000000 in
theorem c_X5_isSoBy (l : Launch) (D : va_G) (cI : ClassId) (A : Nat → Nat) (M : St) (p1 : Int32) (r : Int32 × St) (hf : f_X5_isSoBy M p1 = some r) : Ct l yX5_isSoBy wsX5_isSoBy rm_X5_isSoBy D cI (cM cI A M) (cM cI A r.2) [.ref (A 0), .int p1] (some (.int r.1)) := by
  unfold f_X5_isSoBy at hf
  obtain ⟨hz, hf⟩ := fzp_e hf
  refine Ct.ofZ hz (cc := cX5_isSoBy) (maxL := 4) (by decide +kernel) rfl (Nat.le_of_ble_eq_true rfl) ?_
  intro p e s m args below meth c AA Q H locs ls hx hb hml hown hts hA hK hP hD hS hl hend0
  have hend : ∀ (r1 : Int32 × St) (H : Heap) (locs : List Loc) (pc : Nat) (ls : Array Slot), some r1 = some r → va_P D vwCl (cM cI A r1.2) H → va_S AA s.heap H locs → decode cX5_isSoBy pc = .ok (.ireturn, 1) → W p l e rm_X5_isSoBy s m args below meth c H locs 0 0 Q (F0 m pc ls [.int r1.1]) := by
    intro r1 H locs pc ls e1 hP hS hd; cases e1; exact hend0 H locs pc ls hP hS hd
  clear hend0
  have hw5 : ∀ w ∈ wsX50, w ∈ wsX5_isSoBy := by decide +kernel
  have k16 := hts (.fieldLink RX5 16 "AnchorsForConfessionModel" "loose" "[I") (by decide +kernel)
  have k19 := hts (.fieldLink RX5 19 "AnchorsForConfessionModel" "out" "[I") (by decide +kernel)
  have k55 := hts (.fieldLink RX5 55 "AnchorsForConfessionModel" "row" "[I") (by decide +kernel)
  have k58 := hts (.fieldLink RX5 58 "AnchorsForConfessionModel" "ships" "I") (by decide +kernel)
  have k273 := hts (.fieldLink RX5 273 "AnchorsForConfessionModel" "rowMany" "I") (by decide +kernel)
  replace hl : lv_has ls 4 [(0, .ref (A 0)), (1, .int p1)] := hl
  refine lv_aload_n hx hb dX5_isSoBy_0 rfl (lv_at hl 0 rfl) ?_
  refine lv_iload_n hx hb dX5_isSoBy_1 rfl (lv_at hl 1 rfl) ?_
  obtain ⟨a_1, ha_1, hf⟩ := bd_e hf
  refine Ct.callV (As := [.int p1]) (rest := []) (st1 := [.int a_1]) (c_X5_canTell l D cI A M p1 a_1 ha_1) hx hb hml hown hts (cwV 1 hts gX5_isSoBy_X5_canTell rfl rfl rfl hd_X5_canTell ⟨Nat.le_of_ble_eq_true rfl, Nat.le_of_ble_eq_true rfl⟩) (va_recv hK hP (ci := 5) (q0 := 0) rfl cM_at0) (Ln.id rfl) hA hK hP hD hS rfl hl.1 rfl rfl (Nat.le_of_ble_eq_true rfl) dX5_isSoBy_2 (fun H locs hP hD hS => ?_)
  refine lv_if_ne (tgt := 10) hx hb dX5_isSoBy_5 (by decide) (fun c_2 => ?_) (fun c_2 => ?_)
  · replace hf := if_f c_2 hf
    refine lv_aload_n hx hb dX5_isSoBy_10 rfl (lv_at hl 0 rfl) ?_
    obtain ⟨a_3, ha_3, hf⟩ := bd_e hf
    refine Ct.callV (As := []) (rest := []) (st1 := []) (c_X5_thinks l D cI A M a_3 ha_3) hx hb hml hown hts (cwV 0 hts gX5_isSoBy_X5_thinks rfl rfl rfl hd_X5_thinks ⟨Nat.le_of_ble_eq_true rfl, Nat.le_of_ble_eq_true rfl⟩) (va_recv hK hP (ci := 5) (q0 := 0) rfl cM_at0) (Ln.id rfl) hA hK hP hD hS rfl hl.1 rfl rfl (Nat.le_of_ble_eq_true rfl) dX5_isSoBy_11 (fun H locs hP hD hS => ?_)
    replace hP : va_P D vwCl (cM cI A a_3) H := hP
    replace hD : va_D AA (cM cI A a_3) := hD
    refine lv_aload_n hx hb dX5_isSoBy_14 rfl (lv_at hl 0 rfl) ?_
    refine lv_iload_n hx hb dX5_isSoBy_15 rfl (lv_at hl 1 rfl) ?_
    obtain ⟨a_4, ha_4, hf⟩ := bd_e hf
    refine Ct.callV (As := [.int p1]) (rest := []) (st1 := [.int a_4.1]) (c_X5_tellsOne l D cI A a_3 p1 a_4 ha_4) hx hb hml hown hts (cwV 1 hts gX5_isSoBy_X5_tellsOne rfl rfl rfl hd_X5_tellsOne ⟨Nat.le_of_ble_eq_true rfl, Nat.le_of_ble_eq_true rfl⟩) (va_recv hK hP (ci := 5) (q0 := 0) rfl cM_at0) (Ln.id rfl) hA hK hP hD hS rfl hl.1 rfl rfl (Nat.le_of_ble_eq_true rfl) dX5_isSoBy_16 (fun H locs hP hD hS => ?_)
    replace hP : va_P D vwCl (cM cI A a_4.2) H := hP
    replace hD : va_D AA (cM cI A a_4.2) := hD
    refine lv_pop hx hb dX5_isSoBy_19 rfl ?_
    refine lv_aload_n hx hb dX5_isSoBy_20 rfl (lv_at hl 0 rfl) ?_
    refine va_get (D := D) (ci := 5) (v := .int (a_4.2 16 10)) (C := RX5) (T := TX5) (N := 27) hx hb hts hw5 hown hK hP 0 cM_at0 rfl 26 (by decide) k273 (fun _ h9 => h9) rfl dX5_isSoBy_21 ?_
    refine lv_aload_n hx hb dX5_isSoBy_24 rfl (lv_at hl 0 rfl) ?_
    refine va_get (D := D) (ci := 5) (v := .int (a_4.2 16 0)) (C := RX5) (T := TX5) (N := 27) hx hb hts hw5 hown hK hP 0 cM_at0 rfl 8 (by decide) k58 (fun _ h9 => h9) rfl dX5_isSoBy_25 ?_
    refine lv_icmp_gt (tgt := 35) hx hb dX5_isSoBy_28 (by decide) (fun c_5 => ?_) (fun c_5 => ?_)
    · replace hf := if_t c_5 hf
      refine lv_iconst (v := 0) hx hb dX5_isSoBy_35 (by decide) ?_
      refine lv_istore_n (lv' := [(2, .int (0 : Int32)), (0, .ref (A 0)), (1, .int p1)]) hx hb dX5_isSoBy_36 rfl hl (by decide) rfl (fun ls hl => ?_)
      refine lv_iconst (v := 0) hx hb dX5_isSoBy_37 (by decide) ?_
      refine lv_istore_n (lv' := [(3, .int (0 : Int32)), (2, .int (0 : Int32)), (0, .ref (A 0)), (1, .int p1)]) hx hb dX5_isSoBy_38 rfl hl (by decide) rfl (fun ls hl => ?_)
      refine lp_ind (P := fun (q39 : Int32 × Int32) => ∀ (H : Heap) (locs : List Loc) (ls : Array Slot), va_P D vwCl (cM cI A a_4.2) H → va_D AA (cM cI A a_4.2) → va_S AA s.heap H locs → lv_has ls 4 [(0, .ref (A 0)), (2, .int q39.1), (3, .int q39.2)] → W p l e rm_X5_isSoBy s m args below meth c H locs 0 0 Q (F0 m 39 ls [])) hf ?_ H locs ls hP hD hS (lv_sub hl [2, 1, 0] rfl)
      clear hf hP hD hS hl
      intro nx39 ih39 q39 hf H locs ls hP hD hS hl
      refine lv_iload_n hx hb dX5_isSoBy_39 rfl (lv_at hl 2 rfl) ?_
      refine lv_aload_n hx hb dX5_isSoBy_40 rfl (lv_at hl 0 rfl) ?_
      refine va_get (D := D) (ci := 5) (v := .int (a_4.2 16 10)) (C := RX5) (T := TX5) (N := 27) hx hb hts hw5 hown hK hP 0 cM_at0 rfl 26 (by decide) k273 (fun _ h9 => h9) rfl dX5_isSoBy_41 ?_
      refine lv_icmp_ge (tgt := 92) hx hb dX5_isSoBy_44 (by decide) (fun c_6 => ?_) (fun c_6 => ?_)
      · replace hf := if_t c_6 hf
        refine lv_aload_n hx hb dX5_isSoBy_92 rfl (lv_at hl 0 rfl) ?_
        obtain ⟨a_7, ha_7, hf⟩ := bd_e hf
        refine Ct.callV (As := []) (rest := []) (st1 := []) (c_X5_forgets l D cI A a_4.2 a_7 ha_7) hx hb hml hown hts (cwV 0 hts gX5_isSoBy_X5_forgets rfl rfl rfl hd_X5_forgets ⟨Nat.le_of_ble_eq_true rfl, Nat.le_of_ble_eq_true rfl⟩) (va_recv hK hP (ci := 5) (q0 := 0) rfl cM_at0) (Ln.id rfl) hA hK hP hD hS rfl hl.1 rfl rfl (Nat.le_of_ble_eq_true rfl) dX5_isSoBy_93 (fun H locs hP hD hS => ?_)
        replace hP : va_P D vwCl (cM cI A a_7) H := hP
        replace hD : va_D AA (cM cI A a_7) := hD
        refine lv_iload_n hx hb dX5_isSoBy_96 rfl (lv_at hl 1 rfl) ?_
        exact hend (q39.1, a_7) H locs _ _ hf hP hS dX5_isSoBy_97
      · replace hf := if_f c_6 hf
        refine lv_iload_n hx hb dX5_isSoBy_47 rfl (lv_at hl 1 rfl) ?_
        refine lv_if_eq (tgt := 92) hx hb dX5_isSoBy_48 (by decide) (fun c_8 => ?_) (fun c_8 => ?_)
        · replace hf := if_t c_8 hf
          refine lv_aload_n hx hb dX5_isSoBy_92 rfl (lv_at hl 0 rfl) ?_
          obtain ⟨a_9, ha_9, hf⟩ := bd_e hf
          refine Ct.callV (As := []) (rest := []) (st1 := []) (c_X5_forgets l D cI A a_4.2 a_9 ha_9) hx hb hml hown hts (cwV 0 hts gX5_isSoBy_X5_forgets rfl rfl rfl hd_X5_forgets ⟨Nat.le_of_ble_eq_true rfl, Nat.le_of_ble_eq_true rfl⟩) (va_recv hK hP (ci := 5) (q0 := 0) rfl cM_at0) (Ln.id rfl) hA hK hP hD hS rfl hl.1 rfl rfl (Nat.le_of_ble_eq_true rfl) dX5_isSoBy_93 (fun H locs hP hD hS => ?_)
          replace hP : va_P D vwCl (cM cI A a_9) H := hP
          replace hD : va_D AA (cM cI A a_9) := hD
          refine lv_iload_n hx hb dX5_isSoBy_96 rfl (lv_at hl 1 rfl) ?_
          exact hend (q39.1, a_9) H locs _ _ hf hP hS dX5_isSoBy_97
        · replace hf := if_f c_8 hf
          refine lv_aload_n hx hb dX5_isSoBy_51 rfl (lv_at hl 0 rfl) ?_
          refine va_get (D := D) (ci := 5) (v := .ref (A 4)) (C := RX5) (T := TX5) (N := 27) hx hb hts hw5 hown hK hP 0 cM_at0 rfl 3 (by decide) k19 (fun _ h9 => h9) rfl dX5_isSoBy_52 ?_
          refine lv_iload_n hx hb dX5_isSoBy_55 rfl (lv_at hl 2 rfl) ?_
          obtain ⟨c_10, hf⟩ := gi_e hf
          refine va_iald hx hb hK hP 4 0 cM_at4 rfl c_10 dX5_isSoBy_56 ?_
          refine lv_if_le (tgt := 65) hx hb dX5_isSoBy_57 (by decide) (fun c_11 => ?_) (fun c_11 => ?_)
          · replace hf := if_t c_11 hf
            refine lv_aload_n hx hb dX5_isSoBy_65 rfl (lv_at hl 0 rfl) ?_
            refine va_get (D := D) (ci := 5) (v := .ref (A 3)) (C := RX5) (T := TX5) (N := 27) hx hb hts hw5 hown hK hP 0 cM_at0 rfl 2 (by decide) k16 (fun _ h9 => h9) rfl dX5_isSoBy_66 ?_
            refine lv_iload_n hx hb dX5_isSoBy_69 rfl (lv_at hl 2 rfl) ?_
            obtain ⟨c_12, hf⟩ := gi_e hf
            refine va_iald hx hb hK hP 3 0 cM_at3 rfl c_12 dX5_isSoBy_70 ?_
            refine lv_aload_n hx hb dX5_isSoBy_71 rfl (lv_at hl 0 rfl) ?_
            refine va_get (D := D) (ci := 5) (v := .ref (A 16)) (C := RX5) (T := TX5) (N := 27) hx hb hts hw5 hown hK hP 0 cM_at0 rfl 25 (by decide) k55 (fun _ h9 => h9) rfl dX5_isSoBy_72 ?_
            refine lv_iload_n hx hb dX5_isSoBy_75 rfl (lv_at hl 2 rfl) ?_
            obtain ⟨c_13, hf⟩ := gi_e hf
            refine va_iald hx hb hK hP 16 0 cM_at16 rfl c_13 dX5_isSoBy_76 ?_
            refine lv_icmp_ne (tgt := 84) hx hb dX5_isSoBy_77 (by decide) (fun c_14 => ?_) (fun c_14 => ?_)
            · replace hf := if_f c_14 hf
              refine lv_iconst (v := 0) hx hb dX5_isSoBy_84 (by decide) ?_
              refine lv_istore_n (lv' := [(2, .int (0 : Int32)), (0, .ref (A 0)), (3, .int q39.2)]) hx hb dX5_isSoBy_85 rfl hl (by decide) rfl (fun ls hl => ?_)
              obtain ⟨v_15, ev_15, hf⟩ := nm_e hf
              refine lv_iinc (v := v_15) (lv' := [(3, .int v_15), (2, .int (0 : Int32)), (0, .ref (A 0))]) hx hb dX5_isSoBy_86 hl (k := 2) rfl (by rw [ev_15]; rfl) (by decide) rfl (fun ls hl => ?_)
              refine lv_goto (tgt := 39) hx hb dX5_isSoBy_89 (by decide) ?_
              exact ih39 ((0 : Int32), v_15) hf H locs ls hP hD hS (lv_sub hl [2, 1, 0] rfl)
            · replace hf := if_t c_14 hf
              refine lv_iconst (v := 1) hx hb dX5_isSoBy_80 (by decide) ?_
              refine lv_goto (tgt := 85) hx hb dX5_isSoBy_81 (by decide) ?_
              refine lv_istore_n (lv' := [(2, .int (1 : Int32)), (0, .ref (A 0)), (3, .int q39.2)]) hx hb dX5_isSoBy_85 rfl hl (by decide) rfl (fun ls hl => ?_)
              obtain ⟨v_16, ev_16, hf⟩ := nm_e hf
              refine lv_iinc (v := v_16) (lv' := [(3, .int v_16), (2, .int (1 : Int32)), (0, .ref (A 0))]) hx hb dX5_isSoBy_86 hl (k := 2) rfl (by rw [ev_16]; rfl) (by decide) rfl (fun ls hl => ?_)
              refine lv_goto (tgt := 39) hx hb dX5_isSoBy_89 (by decide) ?_
              exact ih39 ((1 : Int32), v_16) hf H locs ls hP hD hS (lv_sub hl [2, 1, 0] rfl)
          · replace hf := if_f c_11 hf
            refine lv_bipush (v := 98) hx hb dX5_isSoBy_60 (by decide +kernel) ?_
            refine lv_goto (tgt := 71) hx hb dX5_isSoBy_62 (by decide) ?_
            refine lv_aload_n hx hb dX5_isSoBy_71 rfl (lv_at hl 0 rfl) ?_
            refine va_get (D := D) (ci := 5) (v := .ref (A 16)) (C := RX5) (T := TX5) (N := 27) hx hb hts hw5 hown hK hP 0 cM_at0 rfl 25 (by decide) k55 (fun _ h9 => h9) rfl dX5_isSoBy_72 ?_
            refine lv_iload_n hx hb dX5_isSoBy_75 rfl (lv_at hl 2 rfl) ?_
            obtain ⟨c_17, hf⟩ := gi_e hf
            refine va_iald hx hb hK hP 16 0 cM_at16 rfl c_17 dX5_isSoBy_76 ?_
            refine lv_icmp_ne (tgt := 84) hx hb dX5_isSoBy_77 (by decide) (fun c_18 => ?_) (fun c_18 => ?_)
            · replace hf := if_f c_18 hf
              refine lv_iconst (v := 0) hx hb dX5_isSoBy_84 (by decide) ?_
              refine lv_istore_n (lv' := [(2, .int (0 : Int32)), (0, .ref (A 0)), (3, .int q39.2)]) hx hb dX5_isSoBy_85 rfl hl (by decide) rfl (fun ls hl => ?_)
              obtain ⟨v_19, ev_19, hf⟩ := nm_e hf
              refine lv_iinc (v := v_19) (lv' := [(3, .int v_19), (2, .int (0 : Int32)), (0, .ref (A 0))]) hx hb dX5_isSoBy_86 hl (k := 2) rfl (by rw [ev_19]; rfl) (by decide) rfl (fun ls hl => ?_)
              refine lv_goto (tgt := 39) hx hb dX5_isSoBy_89 (by decide) ?_
              exact ih39 ((0 : Int32), v_19) hf H locs ls hP hD hS (lv_sub hl [2, 1, 0] rfl)
            · replace hf := if_t c_18 hf
              refine lv_iconst (v := 1) hx hb dX5_isSoBy_80 (by decide) ?_
              refine lv_goto (tgt := 85) hx hb dX5_isSoBy_81 (by decide) ?_
              refine lv_istore_n (lv' := [(2, .int (1 : Int32)), (0, .ref (A 0)), (3, .int q39.2)]) hx hb dX5_isSoBy_85 rfl hl (by decide) rfl (fun ls hl => ?_)
              obtain ⟨v_20, ev_20, hf⟩ := nm_e hf
              refine lv_iinc (v := v_20) (lv' := [(3, .int v_20), (2, .int (1 : Int32)), (0, .ref (A 0))]) hx hb dX5_isSoBy_86 hl (k := 2) rfl (by rw [ev_20]; rfl) (by decide) rfl (fun ls hl => ?_)
              refine lv_goto (tgt := 39) hx hb dX5_isSoBy_89 (by decide) ?_
              exact ih39 ((1 : Int32), v_20) hf H locs ls hP hD hS (lv_sub hl [2, 1, 0] rfl)
    · replace hf := if_f c_5 hf
      refine lv_iconst (v := 1) hx hb dX5_isSoBy_31 (by decide) ?_
      refine lv_goto (tgt := 36) hx hb dX5_isSoBy_32 (by decide) ?_
      refine lv_istore_n (lv' := [(2, .int (1 : Int32)), (0, .ref (A 0)), (1, .int p1)]) hx hb dX5_isSoBy_36 rfl hl (by decide) rfl (fun ls hl => ?_)
      refine lv_iconst (v := 0) hx hb dX5_isSoBy_37 (by decide) ?_
      refine lv_istore_n (lv' := [(3, .int (0 : Int32)), (2, .int (1 : Int32)), (0, .ref (A 0)), (1, .int p1)]) hx hb dX5_isSoBy_38 rfl hl (by decide) rfl (fun ls hl => ?_)
      refine lp_ind (P := fun (q39 : Int32 × Int32) => ∀ (H : Heap) (locs : List Loc) (ls : Array Slot), va_P D vwCl (cM cI A a_4.2) H → va_D AA (cM cI A a_4.2) → va_S AA s.heap H locs → lv_has ls 4 [(0, .ref (A 0)), (2, .int q39.1), (3, .int q39.2)] → W p l e rm_X5_isSoBy s m args below meth c H locs 0 0 Q (F0 m 39 ls [])) hf ?_ H locs ls hP hD hS (lv_sub hl [2, 1, 0] rfl)
      clear hf hP hD hS hl
      intro nx39 ih39 q39 hf H locs ls hP hD hS hl
      refine lv_iload_n hx hb dX5_isSoBy_39 rfl (lv_at hl 2 rfl) ?_
      refine lv_aload_n hx hb dX5_isSoBy_40 rfl (lv_at hl 0 rfl) ?_
      refine va_get (D := D) (ci := 5) (v := .int (a_4.2 16 10)) (C := RX5) (T := TX5) (N := 27) hx hb hts hw5 hown hK hP 0 cM_at0 rfl 26 (by decide) k273 (fun _ h9 => h9) rfl dX5_isSoBy_41 ?_
      refine lv_icmp_ge (tgt := 92) hx hb dX5_isSoBy_44 (by decide) (fun c_21 => ?_) (fun c_21 => ?_)
      · replace hf := if_t c_21 hf
        refine lv_aload_n hx hb dX5_isSoBy_92 rfl (lv_at hl 0 rfl) ?_
        obtain ⟨a_22, ha_22, hf⟩ := bd_e hf
        refine Ct.callV (As := []) (rest := []) (st1 := []) (c_X5_forgets l D cI A a_4.2 a_22 ha_22) hx hb hml hown hts (cwV 0 hts gX5_isSoBy_X5_forgets rfl rfl rfl hd_X5_forgets ⟨Nat.le_of_ble_eq_true rfl, Nat.le_of_ble_eq_true rfl⟩) (va_recv hK hP (ci := 5) (q0 := 0) rfl cM_at0) (Ln.id rfl) hA hK hP hD hS rfl hl.1 rfl rfl (Nat.le_of_ble_eq_true rfl) dX5_isSoBy_93 (fun H locs hP hD hS => ?_)
        replace hP : va_P D vwCl (cM cI A a_22) H := hP
        replace hD : va_D AA (cM cI A a_22) := hD
        refine lv_iload_n hx hb dX5_isSoBy_96 rfl (lv_at hl 1 rfl) ?_
        exact hend (q39.1, a_22) H locs _ _ hf hP hS dX5_isSoBy_97
      · replace hf := if_f c_21 hf
        refine lv_iload_n hx hb dX5_isSoBy_47 rfl (lv_at hl 1 rfl) ?_
        refine lv_if_eq (tgt := 92) hx hb dX5_isSoBy_48 (by decide) (fun c_23 => ?_) (fun c_23 => ?_)
        · replace hf := if_t c_23 hf
          refine lv_aload_n hx hb dX5_isSoBy_92 rfl (lv_at hl 0 rfl) ?_
          obtain ⟨a_24, ha_24, hf⟩ := bd_e hf
          refine Ct.callV (As := []) (rest := []) (st1 := []) (c_X5_forgets l D cI A a_4.2 a_24 ha_24) hx hb hml hown hts (cwV 0 hts gX5_isSoBy_X5_forgets rfl rfl rfl hd_X5_forgets ⟨Nat.le_of_ble_eq_true rfl, Nat.le_of_ble_eq_true rfl⟩) (va_recv hK hP (ci := 5) (q0 := 0) rfl cM_at0) (Ln.id rfl) hA hK hP hD hS rfl hl.1 rfl rfl (Nat.le_of_ble_eq_true rfl) dX5_isSoBy_93 (fun H locs hP hD hS => ?_)
          replace hP : va_P D vwCl (cM cI A a_24) H := hP
          replace hD : va_D AA (cM cI A a_24) := hD
          refine lv_iload_n hx hb dX5_isSoBy_96 rfl (lv_at hl 1 rfl) ?_
          exact hend (q39.1, a_24) H locs _ _ hf hP hS dX5_isSoBy_97
        · replace hf := if_f c_23 hf
          refine lv_aload_n hx hb dX5_isSoBy_51 rfl (lv_at hl 0 rfl) ?_
          refine va_get (D := D) (ci := 5) (v := .ref (A 4)) (C := RX5) (T := TX5) (N := 27) hx hb hts hw5 hown hK hP 0 cM_at0 rfl 3 (by decide) k19 (fun _ h9 => h9) rfl dX5_isSoBy_52 ?_
          refine lv_iload_n hx hb dX5_isSoBy_55 rfl (lv_at hl 2 rfl) ?_
          obtain ⟨c_25, hf⟩ := gi_e hf
          refine va_iald hx hb hK hP 4 0 cM_at4 rfl c_25 dX5_isSoBy_56 ?_
          refine lv_if_le (tgt := 65) hx hb dX5_isSoBy_57 (by decide) (fun c_26 => ?_) (fun c_26 => ?_)
          · replace hf := if_t c_26 hf
            refine lv_aload_n hx hb dX5_isSoBy_65 rfl (lv_at hl 0 rfl) ?_
            refine va_get (D := D) (ci := 5) (v := .ref (A 3)) (C := RX5) (T := TX5) (N := 27) hx hb hts hw5 hown hK hP 0 cM_at0 rfl 2 (by decide) k16 (fun _ h9 => h9) rfl dX5_isSoBy_66 ?_
            refine lv_iload_n hx hb dX5_isSoBy_69 rfl (lv_at hl 2 rfl) ?_
            obtain ⟨c_27, hf⟩ := gi_e hf
            refine va_iald hx hb hK hP 3 0 cM_at3 rfl c_27 dX5_isSoBy_70 ?_
            refine lv_aload_n hx hb dX5_isSoBy_71 rfl (lv_at hl 0 rfl) ?_
            refine va_get (D := D) (ci := 5) (v := .ref (A 16)) (C := RX5) (T := TX5) (N := 27) hx hb hts hw5 hown hK hP 0 cM_at0 rfl 25 (by decide) k55 (fun _ h9 => h9) rfl dX5_isSoBy_72 ?_
            refine lv_iload_n hx hb dX5_isSoBy_75 rfl (lv_at hl 2 rfl) ?_
            obtain ⟨c_28, hf⟩ := gi_e hf
            refine va_iald hx hb hK hP 16 0 cM_at16 rfl c_28 dX5_isSoBy_76 ?_
            refine lv_icmp_ne (tgt := 84) hx hb dX5_isSoBy_77 (by decide) (fun c_29 => ?_) (fun c_29 => ?_)
            · replace hf := if_f c_29 hf
              refine lv_iconst (v := 0) hx hb dX5_isSoBy_84 (by decide) ?_
              refine lv_istore_n (lv' := [(2, .int (0 : Int32)), (0, .ref (A 0)), (3, .int q39.2)]) hx hb dX5_isSoBy_85 rfl hl (by decide) rfl (fun ls hl => ?_)
              obtain ⟨v_30, ev_30, hf⟩ := nm_e hf
              refine lv_iinc (v := v_30) (lv' := [(3, .int v_30), (2, .int (0 : Int32)), (0, .ref (A 0))]) hx hb dX5_isSoBy_86 hl (k := 2) rfl (by rw [ev_30]; rfl) (by decide) rfl (fun ls hl => ?_)
              refine lv_goto (tgt := 39) hx hb dX5_isSoBy_89 (by decide) ?_
              exact ih39 ((0 : Int32), v_30) hf H locs ls hP hD hS (lv_sub hl [2, 1, 0] rfl)
            · replace hf := if_t c_29 hf
              refine lv_iconst (v := 1) hx hb dX5_isSoBy_80 (by decide) ?_
              refine lv_goto (tgt := 85) hx hb dX5_isSoBy_81 (by decide) ?_
              refine lv_istore_n (lv' := [(2, .int (1 : Int32)), (0, .ref (A 0)), (3, .int q39.2)]) hx hb dX5_isSoBy_85 rfl hl (by decide) rfl (fun ls hl => ?_)
              obtain ⟨v_31, ev_31, hf⟩ := nm_e hf
              refine lv_iinc (v := v_31) (lv' := [(3, .int v_31), (2, .int (1 : Int32)), (0, .ref (A 0))]) hx hb dX5_isSoBy_86 hl (k := 2) rfl (by rw [ev_31]; rfl) (by decide) rfl (fun ls hl => ?_)
              refine lv_goto (tgt := 39) hx hb dX5_isSoBy_89 (by decide) ?_
              exact ih39 ((1 : Int32), v_31) hf H locs ls hP hD hS (lv_sub hl [2, 1, 0] rfl)
          · replace hf := if_f c_26 hf
            refine lv_bipush (v := 98) hx hb dX5_isSoBy_60 (by decide +kernel) ?_
            refine lv_goto (tgt := 71) hx hb dX5_isSoBy_62 (by decide) ?_
            refine lv_aload_n hx hb dX5_isSoBy_71 rfl (lv_at hl 0 rfl) ?_
            refine va_get (D := D) (ci := 5) (v := .ref (A 16)) (C := RX5) (T := TX5) (N := 27) hx hb hts hw5 hown hK hP 0 cM_at0 rfl 25 (by decide) k55 (fun _ h9 => h9) rfl dX5_isSoBy_72 ?_
            refine lv_iload_n hx hb dX5_isSoBy_75 rfl (lv_at hl 2 rfl) ?_
            obtain ⟨c_32, hf⟩ := gi_e hf
            refine va_iald hx hb hK hP 16 0 cM_at16 rfl c_32 dX5_isSoBy_76 ?_
            refine lv_icmp_ne (tgt := 84) hx hb dX5_isSoBy_77 (by decide) (fun c_33 => ?_) (fun c_33 => ?_)
            · replace hf := if_f c_33 hf
              refine lv_iconst (v := 0) hx hb dX5_isSoBy_84 (by decide) ?_
              refine lv_istore_n (lv' := [(2, .int (0 : Int32)), (0, .ref (A 0)), (3, .int q39.2)]) hx hb dX5_isSoBy_85 rfl hl (by decide) rfl (fun ls hl => ?_)
              obtain ⟨v_34, ev_34, hf⟩ := nm_e hf
              refine lv_iinc (v := v_34) (lv' := [(3, .int v_34), (2, .int (0 : Int32)), (0, .ref (A 0))]) hx hb dX5_isSoBy_86 hl (k := 2) rfl (by rw [ev_34]; rfl) (by decide) rfl (fun ls hl => ?_)
              refine lv_goto (tgt := 39) hx hb dX5_isSoBy_89 (by decide) ?_
              exact ih39 ((0 : Int32), v_34) hf H locs ls hP hD hS (lv_sub hl [2, 1, 0] rfl)
            · replace hf := if_t c_33 hf
              refine lv_iconst (v := 1) hx hb dX5_isSoBy_80 (by decide) ?_
              refine lv_goto (tgt := 85) hx hb dX5_isSoBy_81 (by decide) ?_
              refine lv_istore_n (lv' := [(2, .int (1 : Int32)), (0, .ref (A 0)), (3, .int q39.2)]) hx hb dX5_isSoBy_85 rfl hl (by decide) rfl (fun ls hl => ?_)
              obtain ⟨v_35, ev_35, hf⟩ := nm_e hf
              refine lv_iinc (v := v_35) (lv' := [(3, .int v_35), (2, .int (1 : Int32)), (0, .ref (A 0))]) hx hb dX5_isSoBy_86 hl (k := 2) rfl (by rw [ev_35]; rfl) (by decide) rfl (fun ls hl => ?_)
              refine lv_goto (tgt := 39) hx hb dX5_isSoBy_89 (by decide) ?_
              exact ih39 ((1 : Int32), v_35) hf H locs ls hP hD hS (lv_sub hl [2, 1, 0] rfl)
  · replace hf := if_t c_2 hf
    refine lv_iconst (v := 0) hx hb dX5_isSoBy_8 (by decide) ?_
    exact hend ((0 : Int32), M) H locs _ _ hf hP hS dX5_isSoBy_9

def f_X5_whoTold (M : St) : Option (Int32 × St) := (lp (fun (nx4 : (Int32 × Int32 × St) → Option (Int32 × St)) (q4 : Int32 × Int32 × St) => (if (q4.2.2 16 1) ≤ q4.2.1 then (some (q4.1, q4.2.2)) else (bd (f_X5_isSoBy q4.2.2 q4.2.1) fun a_2 => (if a_2.1 = 0 then (nm (q4.1 ||| (0 : Int32)) fun v_4 => (nm (q4.2.1 + (1 : Int32)) fun v_5 => (nx4 (v_4, v_5, a_2.2)))) else (nm (q4.1 ||| ((1 : Int32) <<< (q4.2.1 &&& 31))) fun v_6 => (nm (q4.2.1 + (1 : Int32)) fun v_7 => (nx4 (v_6, v_7, a_2.2)))))))) 1000 ((0 : Int32), (0 : Int32), M))
def rm_X5_whoTold : Room := { frames := 5, cells := 0, slots := 0, locals := 111 }
theorem hd_X5_whoTold : yX5_whoTold.cls = RX5 ∧ yX5_whoTold.cls ≠ "java/lang/invoke/MethodHandle" ∧ yX5_whoTold.cls ≠ "java/lang/invoke/VarHandle" ∧ (parseMethodDescriptor yX5_whoTold.desc).map (fun d => d.parameters.length) = some 0 := by decide +kernel
set_option maxRecDepth 100000 in
set_option maxHeartbeats 4000000 in
theorem c_X5_whoTold (l : Launch) (D : va_G) (cI : ClassId) (A : Nat → Nat) (M : St) (r : Int32 × St) (hf : f_X5_whoTold M = some r) : Ct l yX5_whoTold wsX5_whoTold rm_X5_whoTold D cI (cM cI A M) (cM cI A r.2) [.ref (A 0)] (some (.int r.1)) := by
  unfold f_X5_whoTold at hf
  refine Ct.ofI (cc := cX5_whoTold) (maxL := 3) (by decide +kernel) rfl (Nat.le_of_ble_eq_true rfl) ?_
  intro p e s m args below meth c AA Q H locs ls hx hb hml hown hts hA hK hP hD hS hl hend0
  have hend : ∀ (r1 : Int32 × St) (H : Heap) (locs : List Loc) (pc : Nat) (ls : Array Slot), some r1 = some r → va_P D vwCl (cM cI A r1.2) H → va_S AA s.heap H locs → decode cX5_whoTold pc = .ok (.ireturn, 1) → W p l e rm_X5_whoTold s m args below meth c H locs 0 0 Q (F0 m pc ls [.int r1.1]) := by
    intro r1 H locs pc ls e1 hP hS hd; cases e1; exact hend0 H locs pc ls hP hS hd
  clear hend0
  have hw5 : ∀ w ∈ wsX50, w ∈ wsX5_whoTold := by decide +kernel
  have k65 := hts (.fieldLink RX5 65 "AnchorsForConfessionModel" "men" "I") (by decide +kernel)
  replace hl : lv_has ls 3 [(0, .ref (A 0))] := hl
  refine lv_iconst (v := 0) hx hb dX5_whoTold_0 (by decide) ?_
  refine lv_istore_n (lv' := [(1, .int (0 : Int32)), (0, .ref (A 0))]) hx hb dX5_whoTold_1 rfl hl (by decide) rfl (fun ls hl => ?_)
  refine lv_iconst (v := 0) hx hb dX5_whoTold_2 (by decide) ?_
  refine lv_istore_n (lv' := [(2, .int (0 : Int32)), (1, .int (0 : Int32)), (0, .ref (A 0))]) hx hb dX5_whoTold_3 rfl hl (by decide) rfl (fun ls hl => ?_)
  refine lp_ind (P := fun (q4 : Int32 × Int32 × St) => ∀ (H : Heap) (locs : List Loc) (ls : Array Slot), va_P D vwCl (cM cI A q4.2.2) H → va_D AA (cM cI A q4.2.2) → va_S AA s.heap H locs → lv_has ls 3 [(0, .ref (A 0)), (1, .int q4.1), (2, .int q4.2.1)] → W p l e rm_X5_whoTold s m args below meth c H locs 0 0 Q (F0 m 4 ls [])) hf ?_ H locs ls hP hD hS (lv_sub hl [2, 1, 0] rfl)
  clear hf hP hD hS hl
  intro nx4 ih4 q4 hf H locs ls hP hD hS hl
  refine lv_iload_n hx hb dX5_whoTold_4 rfl (lv_at hl 2 rfl) ?_
  refine lv_aload_n hx hb dX5_whoTold_5 rfl (lv_at hl 0 rfl) ?_
  refine va_get (D := D) (ci := 5) (v := .int (q4.2.2 16 1)) (C := RX5) (T := TX5) (N := 27) hx hb hts hw5 hown hK hP 0 cM_at0 rfl 9 (by decide) k65 (fun _ h9 => h9) rfl dX5_whoTold_6 ?_
  refine lv_icmp_ge (tgt := 36) hx hb dX5_whoTold_9 (by decide) (fun c_1 => ?_) (fun c_1 => ?_)
  · replace hf := if_t c_1 hf
    refine lv_iload_n hx hb dX5_whoTold_36 rfl (lv_at hl 1 rfl) ?_
    exact hend (q4.1, q4.2.2) H locs _ _ hf hP hS dX5_whoTold_37
  · replace hf := if_f c_1 hf
    refine lv_iload_n hx hb dX5_whoTold_12 rfl (lv_at hl 1 rfl) ?_
    refine lv_aload_n hx hb dX5_whoTold_13 rfl (lv_at hl 0 rfl) ?_
    refine lv_iload_n hx hb dX5_whoTold_14 rfl (lv_at hl 2 rfl) ?_
    obtain ⟨a_2, ha_2, hf⟩ := bd_e hf
    refine Ct.callV (As := [.int q4.2.1]) (rest := [.int q4.1]) (st1 := [.int a_2.1, .int q4.1]) (c_X5_isSoBy l D cI A q4.2.2 q4.2.1 a_2 ha_2) hx hb hml hown hts (cwV 1 hts gX5_whoTold_X5_isSoBy rfl rfl rfl hd_X5_isSoBy ⟨Nat.le_of_ble_eq_true rfl, Nat.le_of_ble_eq_true rfl⟩) (va_recv hK hP (ci := 5) (q0 := 0) rfl cM_at0) (Ln.id rfl) hA hK hP hD hS rfl hl.1 rfl rfl (Nat.le_of_ble_eq_true rfl) dX5_whoTold_15 (fun H locs hP hD hS => ?_)
    replace hP : va_P D vwCl (cM cI A a_2.2) H := hP
    replace hD : va_D AA (cM cI A a_2.2) := hD
    refine lv_if_eq (tgt := 27) hx hb dX5_whoTold_18 (by decide) (fun c_3 => ?_) (fun c_3 => ?_)
    · replace hf := if_t c_3 hf
      refine lv_iconst (v := 0) hx hb dX5_whoTold_27 (by decide) ?_
      refine lv_ior hx hb dX5_whoTold_28 ?_
      refine lv_topi (fun v_4 ev_4 => ?_)
      replace hf := nm_at ev_4 hf
      refine lv_istore_n (lv' := [(1, .int v_4), (0, .ref (A 0)), (2, .int q4.2.1)]) hx hb dX5_whoTold_29 rfl hl (by decide) rfl (fun ls hl => ?_)
      obtain ⟨v_5, ev_5, hf⟩ := nm_e hf
      refine lv_iinc (v := v_5) (lv' := [(2, .int v_5), (1, .int v_4), (0, .ref (A 0))]) hx hb dX5_whoTold_30 hl (k := 2) rfl (by rw [ev_5]; rfl) (by decide) rfl (fun ls hl => ?_)
      refine lv_goto (tgt := 4) hx hb dX5_whoTold_33 (by decide) ?_
      exact ih4 (v_4, v_5, a_2.2) hf H locs ls hP hD hS (lv_sub hl [2, 1, 0] rfl)
    · replace hf := if_f c_3 hf
      refine lv_iconst (v := 1) hx hb dX5_whoTold_21 (by decide) ?_
      refine lv_iload_n hx hb dX5_whoTold_22 rfl (lv_at hl 2 rfl) ?_
      refine lv_ishl hx hb dX5_whoTold_23 ?_
      refine lv_goto (tgt := 28) hx hb dX5_whoTold_24 (by decide) ?_
      refine lv_ior hx hb dX5_whoTold_28 ?_
      refine lv_topi (fun v_6 ev_6 => ?_)
      replace hf := nm_at ev_6 hf
      refine lv_istore_n (lv' := [(1, .int v_6), (0, .ref (A 0)), (2, .int q4.2.1)]) hx hb dX5_whoTold_29 rfl hl (by decide) rfl (fun ls hl => ?_)
      obtain ⟨v_7, ev_7, hf⟩ := nm_e hf
      refine lv_iinc (v := v_7) (lv' := [(2, .int v_7), (1, .int v_6), (0, .ref (A 0))]) hx hb dX5_whoTold_30 hl (k := 2) rfl (by rw [ev_7]; rfl) (by decide) rfl (fun ls hl => ?_)
      refine lv_goto (tgt := 4) hx hb dX5_whoTold_33 (by decide) ?_
      exact ih4 (v_6, v_7, a_2.2) hf H locs ls hP hD hS (lv_sub hl [2, 1, 0] rfl)

def f_X5_bitsFor_a5 (M : St) (p2 : Int32) (p3 : Int32) : Option (Int32 × St) := (gi p2 8 (nm (M 4 (p2).toNatClampNeg) fun v_2 => (lp (fun (nx11 : (Int32 × Int32 × St) → Option (Int32 × St)) (q11 : Int32 × Int32 × St) => (if p3 ≤ q11.2.1 then (gi p2 8 (nm (su q11.2.2 4 (p2).toNatClampNeg v_2) fun h_5 => (some (q11.1, h_5)))) else (gi p2 8 (nm (su q11.2.2 4 (p2).toNatClampNeg q11.2.1) fun h_7 => (bd (f_X5_isSoBy h_7 p2) fun a_8 => (if a_8.1 = 0 then (nm (q11.1 ||| (0 : Int32)) fun v_10 => (nm (q11.2.1 + (1 : Int32)) fun v_11 => (nx11 (v_10, v_11, a_8.2)))) else (nm (q11.1 ||| ((1 : Int32) <<< (q11.2.1 &&& 31))) fun v_12 => (nm (q11.2.1 + (1 : Int32)) fun v_13 => (nx11 (v_12, v_13, a_8.2)))))))))) 1000 ((0 : Int32), (0 : Int32), M))))
def rm_X5_bitsFor_a5 : Room := { frames := 5, cells := 0, slots := 0, locals := 111 }
theorem hd_X5_bitsFor : yX5_bitsFor.cls = RX5 ∧ yX5_bitsFor.cls ≠ "java/lang/invoke/MethodHandle" ∧ yX5_bitsFor.cls ≠ "java/lang/invoke/VarHandle" ∧ (parseMethodDescriptor yX5_bitsFor.desc).map (fun d => d.parameters.length) = some 3 := by decide +kernel
set_option maxRecDepth 100000 in
set_option maxHeartbeats 4000000 in
theorem c_X5_bitsFor_a5 (l : Launch) (D : va_G) (cI : ClassId) (A : Nat → Nat) (M : St) (p2 : Int32) (p3 : Int32) (r : Int32 × St) (hf : f_X5_bitsFor_a5 M p2 p3 = some r) : Ct l yX5_bitsFor wsX5_bitsFor rm_X5_bitsFor_a5 D cI (cM cI A M) (cM cI A r.2) [.ref (A 0), .ref (A 5), .int p2, .int p3] (some (.int r.1)) := by
  unfold f_X5_bitsFor_a5 at hf
  refine Ct.ofI (cc := cX5_bitsFor) (maxL := 7) (by decide +kernel) rfl (Nat.le_of_ble_eq_true rfl) ?_
  intro p e s m args below meth c AA Q H locs ls hx hb hml hown hts hA hK hP hD hS hl hend0
  have hend : ∀ (r1 : Int32 × St) (H : Heap) (locs : List Loc) (pc : Nat) (ls : Array Slot), some r1 = some r → va_P D vwCl (cM cI A r1.2) H → va_S AA s.heap H locs → decode cX5_bitsFor pc = .ok (.ireturn, 1) → W p l e rm_X5_bitsFor_a5 s m args below meth c H locs 0 0 Q (F0 m pc ls [.int r1.1]) := by
    intro r1 H locs pc ls e1 hP hS hd; cases e1; exact hend0 H locs pc ls hP hS hd
  clear hend0
  replace hl : lv_has ls 7 [(0, .ref (A 0)), (1, .ref (A 5)), (2, .int p2), (3, .int p3)] := hl
  refine lv_aload_n hx hb dX5_bitsFor_0 rfl (lv_at hl 1 rfl) ?_
  refine lv_iload_n hx hb dX5_bitsFor_1 rfl (lv_at hl 2 rfl) ?_
  obtain ⟨c_1, hf⟩ := gi_e hf
  refine va_iald hx hb hK hP 5 0 cM_at5 rfl c_1 dX5_bitsFor_2 ?_
  refine lv_topi (fun v_2 ev_2 => ?_)
  replace hf := nm_at ev_2 hf
  refine lv_istore (lv' := [(4, .int v_2), (0, .ref (A 0)), (1, .ref (A 5)), (2, .int p2), (3, .int p3)]) hx hb dX5_bitsFor_3 hl (by decide) rfl (fun ls hl => ?_)
  refine lv_iconst (v := 0) hx hb dX5_bitsFor_5 (by decide) ?_
  refine lv_istore (lv' := [(5, .int (0 : Int32)), (4, .int v_2), (0, .ref (A 0)), (1, .ref (A 5)), (2, .int p2), (3, .int p3)]) hx hb dX5_bitsFor_6 hl (by decide) rfl (fun ls hl => ?_)
  refine lv_iconst (v := 0) hx hb dX5_bitsFor_8 (by decide) ?_
  refine lv_istore (lv' := [(6, .int (0 : Int32)), (5, .int (0 : Int32)), (4, .int v_2), (0, .ref (A 0)), (1, .ref (A 5)), (2, .int p2), (3, .int p3)]) hx hb dX5_bitsFor_9 hl (by decide) rfl (fun ls hl => ?_)
  refine lp_ind (P := fun (q11 : Int32 × Int32 × St) => ∀ (H : Heap) (locs : List Loc) (ls : Array Slot), va_P D vwCl (cM cI A q11.2.2) H → va_D AA (cM cI A q11.2.2) → va_S AA s.heap H locs → lv_has ls 7 [(0, .ref (A 0)), (1, .ref (A 5)), (2, .int p2), (3, .int p3), (4, .int v_2), (5, .int q11.1), (6, .int q11.2.1)] → W p l e rm_X5_bitsFor_a5 s m args below meth c H locs 0 0 Q (F0 m 11 ls [])) hf ?_ H locs ls hP hD hS (lv_sub hl [3, 4, 5, 6, 2, 1, 0] rfl)
  clear hf hP hD hS hl
  intro nx11 ih11 q11 hf H locs ls hP hD hS hl
  refine lv_iload hx hb dX5_bitsFor_11 (lv_at hl 6 rfl) ?_
  refine lv_iload_n hx hb dX5_bitsFor_13 rfl (lv_at hl 3 rfl) ?_
  refine lv_icmp_ge (tgt := 49) hx hb dX5_bitsFor_14 (by decide) (fun c_3 => ?_) (fun c_3 => ?_)
  · replace hf := if_t c_3 hf
    refine lv_aload_n hx hb dX5_bitsFor_49 rfl (lv_at hl 1 rfl) ?_
    refine lv_iload_n hx hb dX5_bitsFor_50 rfl (lv_at hl 2 rfl) ?_
    refine lv_iload hx hb dX5_bitsFor_51 (lv_at hl 4 rfl) ?_
    obtain ⟨c_4, hf⟩ := gi_e hf
    refine va_iast hx hb hK hP hD hS 5 0 cM_at5 rfl c_4 dX5_bitsFor_53 (fun H locs hP hD hS => ?_)
    obtain ⟨h_5, eh_5, hf⟩ := nm_e hf
    rw [cM_su5, ← eh_5] at hP hD
    refine lv_iload hx hb dX5_bitsFor_54 (lv_at hl 5 rfl) ?_
    exact hend (q11.1, h_5) H locs _ _ hf hP hS dX5_bitsFor_56
  · replace hf := if_f c_3 hf
    refine lv_aload_n hx hb dX5_bitsFor_17 rfl (lv_at hl 1 rfl) ?_
    refine lv_iload_n hx hb dX5_bitsFor_18 rfl (lv_at hl 2 rfl) ?_
    refine lv_iload hx hb dX5_bitsFor_19 (lv_at hl 6 rfl) ?_
    obtain ⟨c_6, hf⟩ := gi_e hf
    refine va_iast hx hb hK hP hD hS 5 0 cM_at5 rfl c_6 dX5_bitsFor_21 (fun H locs hP hD hS => ?_)
    obtain ⟨h_7, eh_7, hf⟩ := nm_e hf
    rw [cM_su5, ← eh_7] at hP hD
    refine lv_iload hx hb dX5_bitsFor_22 (lv_at hl 5 rfl) ?_
    refine lv_aload_n hx hb dX5_bitsFor_24 rfl (lv_at hl 0 rfl) ?_
    refine lv_iload_n hx hb dX5_bitsFor_25 rfl (lv_at hl 2 rfl) ?_
    obtain ⟨a_8, ha_8, hf⟩ := bd_e hf
    refine Ct.callV (As := [.int p2]) (rest := [.int q11.1]) (st1 := [.int a_8.1, .int q11.1]) (c_X5_isSoBy l D cI A h_7 p2 a_8 ha_8) hx hb hml hown hts (cwV 1 hts gX5_bitsFor_X5_isSoBy rfl rfl rfl hd_X5_isSoBy ⟨Nat.le_of_ble_eq_true rfl, Nat.le_of_ble_eq_true rfl⟩) (va_recv hK hP (ci := 5) (q0 := 0) rfl cM_at0) (Ln.id rfl) hA hK hP hD hS rfl hl.1 rfl rfl (Nat.le_of_ble_eq_true rfl) dX5_bitsFor_26 (fun H locs hP hD hS => ?_)
    replace hP : va_P D vwCl (cM cI A a_8.2) H := hP
    replace hD : va_D AA (cM cI A a_8.2) := hD
    refine lv_if_eq (tgt := 39) hx hb dX5_bitsFor_29 (by decide) (fun c_9 => ?_) (fun c_9 => ?_)
    · replace hf := if_t c_9 hf
      refine lv_iconst (v := 0) hx hb dX5_bitsFor_39 (by decide) ?_
      refine lv_ior hx hb dX5_bitsFor_40 ?_
      refine lv_topi (fun v_10 ev_10 => ?_)
      replace hf := nm_at ev_10 hf
      refine lv_istore (lv' := [(5, .int v_10), (0, .ref (A 0)), (1, .ref (A 5)), (2, .int p2), (3, .int p3), (4, .int v_2), (6, .int q11.2.1)]) hx hb dX5_bitsFor_41 hl (by decide) rfl (fun ls hl => ?_)
      obtain ⟨v_11, ev_11, hf⟩ := nm_e hf
      refine lv_iinc (v := v_11) (lv' := [(6, .int v_11), (5, .int v_10), (0, .ref (A 0)), (1, .ref (A 5)), (2, .int p2), (3, .int p3), (4, .int v_2)]) hx hb dX5_bitsFor_43 hl (k := 6) rfl (by rw [ev_11]; rfl) (by decide) rfl (fun ls hl => ?_)
      refine lv_goto (tgt := 11) hx hb dX5_bitsFor_46 (by decide) ?_
      exact ih11 (v_10, v_11, a_8.2) hf H locs ls hP hD hS (lv_sub hl [2, 3, 4, 5, 6, 1, 0] rfl)
    · replace hf := if_f c_9 hf
      refine lv_iconst (v := 1) hx hb dX5_bitsFor_32 (by decide) ?_
      refine lv_iload hx hb dX5_bitsFor_33 (lv_at hl 6 rfl) ?_
      refine lv_ishl hx hb dX5_bitsFor_35 ?_
      refine lv_goto (tgt := 40) hx hb dX5_bitsFor_36 (by decide) ?_
      refine lv_ior hx hb dX5_bitsFor_40 ?_
      refine lv_topi (fun v_12 ev_12 => ?_)
      replace hf := nm_at ev_12 hf
      refine lv_istore (lv' := [(5, .int v_12), (0, .ref (A 0)), (1, .ref (A 5)), (2, .int p2), (3, .int p3), (4, .int v_2), (6, .int q11.2.1)]) hx hb dX5_bitsFor_41 hl (by decide) rfl (fun ls hl => ?_)
      obtain ⟨v_13, ev_13, hf⟩ := nm_e hf
      refine lv_iinc (v := v_13) (lv' := [(6, .int v_13), (5, .int v_12), (0, .ref (A 0)), (1, .ref (A 5)), (2, .int p2), (3, .int p3), (4, .int v_2)]) hx hb dX5_bitsFor_43 hl (k := 6) rfl (by rw [ev_13]; rfl) (by decide) rfl (fun ls hl => ?_)
      refine lv_goto (tgt := 11) hx hb dX5_bitsFor_46 (by decide) ?_
      exact ih11 (v_12, v_13, a_8.2) hf H locs ls hP hD hS (lv_sub hl [2, 3, 4, 5, 6, 1, 0] rfl)

def f_X5_bitsFor_a6 (M : St) (p2 : Int32) (p3 : Int32) : Option (Int32 × St) := (gi p2 8 (nm (M 5 (p2).toNatClampNeg) fun v_2 => (lp (fun (nx11 : (Int32 × Int32 × St) → Option (Int32 × St)) (q11 : Int32 × Int32 × St) => (if p3 ≤ q11.2.1 then (gi p2 8 (nm (su q11.2.2 5 (p2).toNatClampNeg v_2) fun h_5 => (some (q11.1, h_5)))) else (gi p2 8 (nm (su q11.2.2 5 (p2).toNatClampNeg q11.2.1) fun h_7 => (bd (f_X5_isSoBy h_7 p2) fun a_8 => (if a_8.1 = 0 then (nm (q11.1 ||| (0 : Int32)) fun v_10 => (nm (q11.2.1 + (1 : Int32)) fun v_11 => (nx11 (v_10, v_11, a_8.2)))) else (nm (q11.1 ||| ((1 : Int32) <<< (q11.2.1 &&& 31))) fun v_12 => (nm (q11.2.1 + (1 : Int32)) fun v_13 => (nx11 (v_12, v_13, a_8.2)))))))))) 1000 ((0 : Int32), (0 : Int32), M))))
def rm_X5_bitsFor_a6 : Room := { frames := 5, cells := 0, slots := 0, locals := 111 }
set_option maxRecDepth 100000 in
set_option maxHeartbeats 4000000 in
theorem c_X5_bitsFor_a6 (l : Launch) (D : va_G) (cI : ClassId) (A : Nat → Nat) (M : St) (p2 : Int32) (p3 : Int32) (r : Int32 × St) (hf : f_X5_bitsFor_a6 M p2 p3 = some r) : Ct l yX5_bitsFor wsX5_bitsFor rm_X5_bitsFor_a6 D cI (cM cI A M) (cM cI A r.2) [.ref (A 0), .ref (A 6), .int p2, .int p3] (some (.int r.1)) := by
  unfold f_X5_bitsFor_a6 at hf
  refine Ct.ofI (cc := cX5_bitsFor) (maxL := 7) (by decide +kernel) rfl (Nat.le_of_ble_eq_true rfl) ?_
  intro p e s m args below meth c AA Q H locs ls hx hb hml hown hts hA hK hP hD hS hl hend0
  have hend : ∀ (r1 : Int32 × St) (H : Heap) (locs : List Loc) (pc : Nat) (ls : Array Slot), some r1 = some r → va_P D vwCl (cM cI A r1.2) H → va_S AA s.heap H locs → decode cX5_bitsFor pc = .ok (.ireturn, 1) → W p l e rm_X5_bitsFor_a6 s m args below meth c H locs 0 0 Q (F0 m pc ls [.int r1.1]) := by
    intro r1 H locs pc ls e1 hP hS hd; cases e1; exact hend0 H locs pc ls hP hS hd
  clear hend0
  replace hl : lv_has ls 7 [(0, .ref (A 0)), (1, .ref (A 6)), (2, .int p2), (3, .int p3)] := hl
  refine lv_aload_n hx hb dX5_bitsFor_0 rfl (lv_at hl 1 rfl) ?_
  refine lv_iload_n hx hb dX5_bitsFor_1 rfl (lv_at hl 2 rfl) ?_
  obtain ⟨c_1, hf⟩ := gi_e hf
  refine va_iald hx hb hK hP 6 0 cM_at6 rfl c_1 dX5_bitsFor_2 ?_
  refine lv_topi (fun v_2 ev_2 => ?_)
  replace hf := nm_at ev_2 hf
  refine lv_istore (lv' := [(4, .int v_2), (0, .ref (A 0)), (1, .ref (A 6)), (2, .int p2), (3, .int p3)]) hx hb dX5_bitsFor_3 hl (by decide) rfl (fun ls hl => ?_)
  refine lv_iconst (v := 0) hx hb dX5_bitsFor_5 (by decide) ?_
  refine lv_istore (lv' := [(5, .int (0 : Int32)), (4, .int v_2), (0, .ref (A 0)), (1, .ref (A 6)), (2, .int p2), (3, .int p3)]) hx hb dX5_bitsFor_6 hl (by decide) rfl (fun ls hl => ?_)
  refine lv_iconst (v := 0) hx hb dX5_bitsFor_8 (by decide) ?_
  refine lv_istore (lv' := [(6, .int (0 : Int32)), (5, .int (0 : Int32)), (4, .int v_2), (0, .ref (A 0)), (1, .ref (A 6)), (2, .int p2), (3, .int p3)]) hx hb dX5_bitsFor_9 hl (by decide) rfl (fun ls hl => ?_)
  refine lp_ind (P := fun (q11 : Int32 × Int32 × St) => ∀ (H : Heap) (locs : List Loc) (ls : Array Slot), va_P D vwCl (cM cI A q11.2.2) H → va_D AA (cM cI A q11.2.2) → va_S AA s.heap H locs → lv_has ls 7 [(0, .ref (A 0)), (1, .ref (A 6)), (2, .int p2), (3, .int p3), (4, .int v_2), (5, .int q11.1), (6, .int q11.2.1)] → W p l e rm_X5_bitsFor_a6 s m args below meth c H locs 0 0 Q (F0 m 11 ls [])) hf ?_ H locs ls hP hD hS (lv_sub hl [3, 4, 5, 6, 2, 1, 0] rfl)
  clear hf hP hD hS hl
  intro nx11 ih11 q11 hf H locs ls hP hD hS hl
  refine lv_iload hx hb dX5_bitsFor_11 (lv_at hl 6 rfl) ?_
  refine lv_iload_n hx hb dX5_bitsFor_13 rfl (lv_at hl 3 rfl) ?_
  refine lv_icmp_ge (tgt := 49) hx hb dX5_bitsFor_14 (by decide) (fun c_3 => ?_) (fun c_3 => ?_)
  · replace hf := if_t c_3 hf
    refine lv_aload_n hx hb dX5_bitsFor_49 rfl (lv_at hl 1 rfl) ?_
    refine lv_iload_n hx hb dX5_bitsFor_50 rfl (lv_at hl 2 rfl) ?_
    refine lv_iload hx hb dX5_bitsFor_51 (lv_at hl 4 rfl) ?_
    obtain ⟨c_4, hf⟩ := gi_e hf
    refine va_iast hx hb hK hP hD hS 6 0 cM_at6 rfl c_4 dX5_bitsFor_53 (fun H locs hP hD hS => ?_)
    obtain ⟨h_5, eh_5, hf⟩ := nm_e hf
    rw [cM_su6, ← eh_5] at hP hD
    refine lv_iload hx hb dX5_bitsFor_54 (lv_at hl 5 rfl) ?_
    exact hend (q11.1, h_5) H locs _ _ hf hP hS dX5_bitsFor_56
  · replace hf := if_f c_3 hf
    refine lv_aload_n hx hb dX5_bitsFor_17 rfl (lv_at hl 1 rfl) ?_
    refine lv_iload_n hx hb dX5_bitsFor_18 rfl (lv_at hl 2 rfl) ?_
    refine lv_iload hx hb dX5_bitsFor_19 (lv_at hl 6 rfl) ?_
    obtain ⟨c_6, hf⟩ := gi_e hf
    refine va_iast hx hb hK hP hD hS 6 0 cM_at6 rfl c_6 dX5_bitsFor_21 (fun H locs hP hD hS => ?_)
    obtain ⟨h_7, eh_7, hf⟩ := nm_e hf
    rw [cM_su6, ← eh_7] at hP hD
    refine lv_iload hx hb dX5_bitsFor_22 (lv_at hl 5 rfl) ?_
    refine lv_aload_n hx hb dX5_bitsFor_24 rfl (lv_at hl 0 rfl) ?_
    refine lv_iload_n hx hb dX5_bitsFor_25 rfl (lv_at hl 2 rfl) ?_
    obtain ⟨a_8, ha_8, hf⟩ := bd_e hf
    refine Ct.callV (As := [.int p2]) (rest := [.int q11.1]) (st1 := [.int a_8.1, .int q11.1]) (c_X5_isSoBy l D cI A h_7 p2 a_8 ha_8) hx hb hml hown hts (cwV 1 hts gX5_bitsFor_X5_isSoBy rfl rfl rfl hd_X5_isSoBy ⟨Nat.le_of_ble_eq_true rfl, Nat.le_of_ble_eq_true rfl⟩) (va_recv hK hP (ci := 5) (q0 := 0) rfl cM_at0) (Ln.id rfl) hA hK hP hD hS rfl hl.1 rfl rfl (Nat.le_of_ble_eq_true rfl) dX5_bitsFor_26 (fun H locs hP hD hS => ?_)
    replace hP : va_P D vwCl (cM cI A a_8.2) H := hP
    replace hD : va_D AA (cM cI A a_8.2) := hD
    refine lv_if_eq (tgt := 39) hx hb dX5_bitsFor_29 (by decide) (fun c_9 => ?_) (fun c_9 => ?_)
    · replace hf := if_t c_9 hf
      refine lv_iconst (v := 0) hx hb dX5_bitsFor_39 (by decide) ?_
      refine lv_ior hx hb dX5_bitsFor_40 ?_
      refine lv_topi (fun v_10 ev_10 => ?_)
      replace hf := nm_at ev_10 hf
      refine lv_istore (lv' := [(5, .int v_10), (0, .ref (A 0)), (1, .ref (A 6)), (2, .int p2), (3, .int p3), (4, .int v_2), (6, .int q11.2.1)]) hx hb dX5_bitsFor_41 hl (by decide) rfl (fun ls hl => ?_)
      obtain ⟨v_11, ev_11, hf⟩ := nm_e hf
      refine lv_iinc (v := v_11) (lv' := [(6, .int v_11), (5, .int v_10), (0, .ref (A 0)), (1, .ref (A 6)), (2, .int p2), (3, .int p3), (4, .int v_2)]) hx hb dX5_bitsFor_43 hl (k := 6) rfl (by rw [ev_11]; rfl) (by decide) rfl (fun ls hl => ?_)
      refine lv_goto (tgt := 11) hx hb dX5_bitsFor_46 (by decide) ?_
      exact ih11 (v_10, v_11, a_8.2) hf H locs ls hP hD hS (lv_sub hl [2, 3, 4, 5, 6, 1, 0] rfl)
    · replace hf := if_f c_9 hf
      refine lv_iconst (v := 1) hx hb dX5_bitsFor_32 (by decide) ?_
      refine lv_iload hx hb dX5_bitsFor_33 (lv_at hl 6 rfl) ?_
      refine lv_ishl hx hb dX5_bitsFor_35 ?_
      refine lv_goto (tgt := 40) hx hb dX5_bitsFor_36 (by decide) ?_
      refine lv_ior hx hb dX5_bitsFor_40 ?_
      refine lv_topi (fun v_12 ev_12 => ?_)
      replace hf := nm_at ev_12 hf
      refine lv_istore (lv' := [(5, .int v_12), (0, .ref (A 0)), (1, .ref (A 6)), (2, .int p2), (3, .int p3), (4, .int v_2), (6, .int q11.2.1)]) hx hb dX5_bitsFor_41 hl (by decide) rfl (fun ls hl => ?_)
      obtain ⟨v_13, ev_13, hf⟩ := nm_e hf
      refine lv_iinc (v := v_13) (lv' := [(6, .int v_13), (5, .int v_12), (0, .ref (A 0)), (1, .ref (A 6)), (2, .int p2), (3, .int p3), (4, .int v_2)]) hx hb dX5_bitsFor_43 hl (k := 6) rfl (by rw [ev_13]; rfl) (by decide) rfl (fun ls hl => ?_)
      refine lv_goto (tgt := 11) hx hb dX5_bitsFor_46 (by decide) ?_
      exact ih11 (v_12, v_13, a_8.2) hf H locs ls hP hD hS (lv_sub hl [2, 3, 4, 5, 6, 1, 0] rfl)

def f_X5_whatIs (M : St) (p1 : Int32) (p2 : Int32) : Option (Int32 × St) := (bd (f_X5_isMan M p1) fun a_1 => (if a_1 = 0 then (bd (f_X5_no M (-1 : Int32)) fun a_9 => (some (a_9.1, a_9.2))) else (bd (f_X5_isIn p2 (0 : Int32) (1 : Int32)) fun a_3 => (if a_3 = 0 then (bd (f_X5_no M (-2 : Int32)) fun a_8 => (some (a_8.1, a_8.2))) else (if p2 = 0 then (bd (f_X5_bitsFor_a5 M p1 (6 : Int32)) fun a_7 => (some (a_7.1, a_7.2))) else (bd (f_X5_bitsFor_a6 M p1 (10 : Int32)) fun a_6 => (some (a_6.1, a_6.2))))))))
def rm_X5_whatIs : Room := { frames := 6, cells := 0, slots := 0, locals := 137 }
theorem hd_X5_whatIs : yX5_whatIs.cls = RX5 ∧ yX5_whatIs.cls ≠ "java/lang/invoke/MethodHandle" ∧ yX5_whatIs.cls ≠ "java/lang/invoke/VarHandle" ∧ (parseMethodDescriptor yX5_whatIs.desc).map (fun d => d.parameters.length) = some 2 := by decide +kernel
set_option maxRecDepth 100000 in
set_option maxHeartbeats 4000000 in
theorem c_X5_whatIs (l : Launch) (D : va_G) (cI : ClassId) (A : Nat → Nat) (M : St) (p1 : Int32) (p2 : Int32) (r : Int32 × St) (hf : f_X5_whatIs M p1 p2 = some r) : Ct l yX5_whatIs wsX5_whatIs rm_X5_whatIs D cI (cM cI A M) (cM cI A r.2) [.ref (A 0), .int p1, .int p2] (some (.int r.1)) := by
  unfold f_X5_whatIs at hf
  refine Ct.ofI (cc := cX5_whatIs) (maxL := 4) (by decide +kernel) rfl (Nat.le_of_ble_eq_true rfl) ?_
  intro p e s m args below meth c AA Q H locs ls hx hb hml hown hts hA hK hP hD hS hl hend0
  have hend : ∀ (r1 : Int32 × St) (H : Heap) (locs : List Loc) (pc : Nat) (ls : Array Slot), some r1 = some r → va_P D vwCl (cM cI A r1.2) H → va_S AA s.heap H locs → decode cX5_whatIs pc = .ok (.ireturn, 1) → W p l e rm_X5_whatIs s m args below meth c H locs 0 0 Q (F0 m pc ls [.int r1.1]) := by
    intro r1 H locs pc ls e1 hP hS hd; cases e1; exact hend0 H locs pc ls hP hS hd
  clear hend0
  have hw5 : ∀ w ∈ wsX50, w ∈ wsX5_whatIs := by decide +kernel
  have k22 := hts (.fieldLink RX5 22 "AnchorsForConfessionModel" "kind" "[I") (by decide +kernel)
  have k25 := hts (.fieldLink RX5 25 "AnchorsForConfessionModel" "figure" "[I") (by decide +kernel)
  replace hl : lv_has ls 4 [(0, .ref (A 0)), (1, .int p1), (2, .int p2)] := hl
  refine lv_aload_n hx hb dX5_whatIs_0 rfl (lv_at hl 0 rfl) ?_
  refine lv_iload_n hx hb dX5_whatIs_1 rfl (lv_at hl 1 rfl) ?_
  obtain ⟨a_1, ha_1, hf⟩ := bd_e hf
  refine Ct.callV (As := [.int p1]) (rest := []) (st1 := [.int a_1]) (c_X5_isMan l D cI A M p1 a_1 ha_1) hx hb hml hown hts (cwV 1 hts gX5_whatIs_X5_isMan rfl rfl rfl hd_X5_isMan ⟨Nat.le_of_ble_eq_true rfl, Nat.le_of_ble_eq_true rfl⟩) (va_recv hK hP (ci := 5) (q0 := 0) rfl cM_at0) (Ln.id rfl) hA hK hP hD hS rfl hl.1 rfl rfl (Nat.le_of_ble_eq_true rfl) dX5_whatIs_2 (fun H locs hP hD hS => ?_)
  refine lv_if_ne (tgt := 12) hx hb dX5_whatIs_5 (by decide) (fun c_2 => ?_) (fun c_2 => ?_)
  · replace hf := if_f c_2 hf
    refine lv_iload_n hx hb dX5_whatIs_12 rfl (lv_at hl 2 rfl) ?_
    refine lv_iconst (v := 0) hx hb dX5_whatIs_13 (by decide) ?_
    refine lv_iconst (v := 1) hx hb dX5_whatIs_14 (by decide) ?_
    obtain ⟨a_3, ha_3, hf⟩ := bd_e hf
    refine Ct.callS (As := [.int p2, .int (0 : Int32), .int (1 : Int32)]) (rest := []) (st1 := [.int a_3]) (c_X5_isIn l D cI  p2 (0 : Int32) (1 : Int32) a_3 ha_3) hx hb hml hown hts (va_cwS 3 hts gX5_whatIs_X5_isIn rfl rfl rfl hd_X5_isIn ⟨Nat.le_of_ble_eq_true rfl, Nat.le_of_ble_eq_true rfl⟩) Ln.nil hA hK hP hD hS rfl hl.1 rfl rfl (Nat.le_of_ble_eq_true rfl) dX5_whatIs_15 (fun H locs hP hD hS => ?_)
    refine lv_if_ne (tgt := 26) hx hb dX5_whatIs_18 (by decide) (fun c_4 => ?_) (fun c_4 => ?_)
    · replace hf := if_f c_4 hf
      refine lv_iconst (v := 0) hx hb dX5_whatIs_26 (by decide) ?_
      refine lv_istore_n (lv' := [(3, .int (0 : Int32)), (0, .ref (A 0)), (1, .int p1), (2, .int p2)]) hx hb dX5_whatIs_27 rfl hl (by decide) rfl (fun ls hl => ?_)
      refine lv_iload_n hx hb dX5_whatIs_28 rfl (lv_at hl 0 rfl) ?_
      refine lv_if_eq (tgt := 38) hx hb dX5_whatIs_29 (by decide) (fun _ => ?_) (fun c0 => absurd c0 (by decide))
      refine lv_iload_n hx hb dX5_whatIs_38 rfl (lv_at hl 3 rfl) ?_
      refine lv_if_ne (tgt := 56) hx hb dX5_whatIs_39 (by decide) (fun c_5 => ?_) (fun c_5 => ?_)
      · replace hf := if_f c_5 hf
        refine lv_aload_n hx hb dX5_whatIs_56 rfl (lv_at hl 1 rfl) ?_
        refine lv_aload_n hx hb dX5_whatIs_57 rfl (lv_at hl 1 rfl) ?_
        refine va_get (D := D) (ci := 5) (v := .ref (A 6)) (C := RX5) (T := TX5) (N := 27) hx hb hts hw5 hown hK hP 0 cM_at0 rfl 5 (by decide) k25 (fun _ h9 => h9) rfl dX5_whatIs_58 ?_
        refine lv_iload_n hx hb dX5_whatIs_61 rfl (lv_at hl 2 rfl) ?_
        refine lv_bipush (v := 10) hx hb dX5_whatIs_62 (by decide +kernel) ?_
        obtain ⟨a_6, ha_6, hf⟩ := bd_e hf
        refine Ct.callV (As := [.ref (A 6), .int p1, .int (10 : Int32)]) (rest := []) (st1 := [.int a_6.1]) (c_X5_bitsFor_a6 l D cI A M p1 (10 : Int32) a_6 ha_6) hx hb hml hown hts (cwV 3 hts gX5_whatIs_X5_bitsFor rfl rfl rfl hd_X5_bitsFor ⟨Nat.le_of_ble_eq_true rfl, Nat.le_of_ble_eq_true rfl⟩) (va_recv hK hP (ci := 5) (q0 := 0) rfl cM_at0) (Ln.id rfl) hA hK hP hD hS rfl hl.1 rfl rfl (Nat.le_of_ble_eq_true rfl) dX5_whatIs_64 (fun H locs hP hD hS => ?_)
        replace hP : va_P D vwCl (cM cI A a_6.2) H := hP
        replace hD : va_D AA (cM cI A a_6.2) := hD
        exact hend (a_6.1, a_6.2) H locs _ _ hf hP hS dX5_whatIs_67
      · replace hf := if_t c_5 hf
        refine lv_aload_n hx hb dX5_whatIs_42 rfl (lv_at hl 1 rfl) ?_
        refine lv_aload_n hx hb dX5_whatIs_43 rfl (lv_at hl 1 rfl) ?_
        refine va_get (D := D) (ci := 5) (v := .ref (A 5)) (C := RX5) (T := TX5) (N := 27) hx hb hts hw5 hown hK hP 0 cM_at0 rfl 4 (by decide) k22 (fun _ h9 => h9) rfl dX5_whatIs_44 ?_
        refine lv_iload_n hx hb dX5_whatIs_47 rfl (lv_at hl 2 rfl) ?_
        refine lv_bipush (v := 6) hx hb dX5_whatIs_48 (by decide +kernel) ?_
        obtain ⟨a_7, ha_7, hf⟩ := bd_e hf
        refine Ct.callV (As := [.ref (A 5), .int p1, .int (6 : Int32)]) (rest := []) (st1 := [.int a_7.1]) (c_X5_bitsFor_a5 l D cI A M p1 (6 : Int32) a_7 ha_7) hx hb hml hown hts (cwV 3 hts gX5_whatIs_X5_bitsFor rfl rfl rfl hd_X5_bitsFor ⟨Nat.le_of_ble_eq_true rfl, Nat.le_of_ble_eq_true rfl⟩) (va_recv hK hP (ci := 5) (q0 := 0) rfl cM_at0) (Ln.id rfl) hA hK hP hD hS rfl hl.1 rfl rfl (Nat.le_of_ble_eq_true rfl) dX5_whatIs_50 (fun H locs hP hD hS => ?_)
        replace hP : va_P D vwCl (cM cI A a_7.2) H := hP
        replace hD : va_D AA (cM cI A a_7.2) := hD
        refine lv_goto (tgt := 67) hx hb dX5_whatIs_53 (by decide) ?_
        exact hend (a_7.1, a_7.2) H locs _ _ hf hP hS dX5_whatIs_67
    · replace hf := if_t c_4 hf
      refine lv_bipush (v := -2) hx hb dX5_whatIs_21 (by decide +kernel) ?_
      refine lv_goto (tgt := 27) hx hb dX5_whatIs_23 (by decide) ?_
      refine lv_istore_n (lv' := [(3, .int (-2 : Int32)), (0, .ref (A 0)), (1, .int p1), (2, .int p2)]) hx hb dX5_whatIs_27 rfl hl (by decide) rfl (fun ls hl => ?_)
      refine lv_iload_n hx hb dX5_whatIs_28 rfl (lv_at hl 0 rfl) ?_
      refine lv_if_eq (tgt := 38) hx hb dX5_whatIs_29 (by decide) (fun c0 => absurd c0 (by decide)) (fun _ => ?_)
      refine lv_aload_n hx hb dX5_whatIs_32 rfl (lv_at hl 1 rfl) ?_
      refine lv_iload_n hx hb dX5_whatIs_33 rfl (lv_at hl 0 rfl) ?_
      obtain ⟨a_8, ha_8, hf⟩ := bd_e hf
      refine Ct.callV (As := [.int (-2 : Int32)]) (rest := []) (st1 := [.int a_8.1]) (c_X5_no l D cI A M (-2 : Int32) a_8 ha_8) hx hb hml hown hts (cwV 1 hts gX5_whatIs_X5_no rfl rfl rfl hd_X5_no ⟨Nat.le_of_ble_eq_true rfl, Nat.le_of_ble_eq_true rfl⟩) (va_recv hK hP (ci := 5) (q0 := 0) rfl cM_at0) (Ln.id rfl) hA hK hP hD hS rfl hl.1 rfl rfl (Nat.le_of_ble_eq_true rfl) dX5_whatIs_34 (fun H locs hP hD hS => ?_)
      replace hP : va_P D vwCl (cM cI A a_8.2) H := hP
      replace hD : va_D AA (cM cI A a_8.2) := hD
      exact hend (a_8.1, a_8.2) H locs _ _ hf hP hS dX5_whatIs_37
  · replace hf := if_t c_2 hf
    refine lv_iconst (v := -1) hx hb dX5_whatIs_8 (by decide) ?_
    refine lv_goto (tgt := 27) hx hb dX5_whatIs_9 (by decide) ?_
    refine lv_istore_n (lv' := [(3, .int (-1 : Int32)), (0, .ref (A 0)), (1, .int p1), (2, .int p2)]) hx hb dX5_whatIs_27 rfl hl (by decide) rfl (fun ls hl => ?_)
    refine lv_iload_n hx hb dX5_whatIs_28 rfl (lv_at hl 0 rfl) ?_
    refine lv_if_eq (tgt := 38) hx hb dX5_whatIs_29 (by decide) (fun c0 => absurd c0 (by decide)) (fun _ => ?_)
    refine lv_aload_n hx hb dX5_whatIs_32 rfl (lv_at hl 1 rfl) ?_
    refine lv_iload_n hx hb dX5_whatIs_33 rfl (lv_at hl 0 rfl) ?_
    obtain ⟨a_9, ha_9, hf⟩ := bd_e hf
    refine Ct.callV (As := [.int (-1 : Int32)]) (rest := []) (st1 := [.int a_9.1]) (c_X5_no l D cI A M (-1 : Int32) a_9 ha_9) hx hb hml hown hts (cwV 1 hts gX5_whatIs_X5_no rfl rfl rfl hd_X5_no ⟨Nat.le_of_ble_eq_true rfl, Nat.le_of_ble_eq_true rfl⟩) (va_recv hK hP (ci := 5) (q0 := 0) rfl cM_at0) (Ln.id rfl) hA hK hP hD hS rfl hl.1 rfl rfl (Nat.le_of_ble_eq_true rfl) dX5_whatIs_34 (fun H locs hP hD hS => ?_)
    replace hP : va_P D vwCl (cM cI A a_9.2) H := hP
    replace hD : va_D AA (cM cI A a_9.2) := hD
    exact hend (a_9.1, a_9.2) H locs _ _ hf hP hS dX5_whatIs_37

def f_X5_row (M : St) (p1 : Int32) : Option (Int32 × St) := (bd (f_X5_bound p1 (0 : Int32) (99 : Int32)) fun a_1 => (if a_1 = 0 then (if (M 16 10) = (16 : Int32) then (bd (f_X5_no M (-6 : Int32)) fun a_14 => (some (a_14.1, a_14.2))) else (if a_1 = 0 then (gi (M 16 10) 16 (nm (su M 15 ((M 16 10)).toNatClampNeg p1) fun h_11 => (nm (su h_11 16 10 ((h_11 16 10) + (1 : Int32))) fun h_12 => (some ((h_12 16 10), h_12))))) else (bd (f_X5_no M a_1) fun a_13 => (some (a_13.1, a_13.2))))) else (if a_1 = 0 then (gi (M 16 10) 16 (nm (su M 15 ((M 16 10)).toNatClampNeg p1) fun h_5 => (nm (su h_5 16 10 ((h_5 16 10) + (1 : Int32))) fun h_6 => (some ((h_6 16 10), h_6))))) else (bd (f_X5_no M a_1) fun a_7 => (some (a_7.1, a_7.2))))))
def rm_X5_row : Room := { frames := 1, cells := 0, slots := 0, locals := 22 }
theorem hd_X5_row : yX5_row.cls = RX5 ∧ yX5_row.cls ≠ "java/lang/invoke/MethodHandle" ∧ yX5_row.cls ≠ "java/lang/invoke/VarHandle" ∧ (parseMethodDescriptor yX5_row.desc).map (fun d => d.parameters.length) = some 1 := by decide +kernel
set_option maxRecDepth 100000 in
set_option maxHeartbeats 4000000 in
theorem c_X5_row (l : Launch) (D : va_G) (cI : ClassId) (A : Nat → Nat) (M : St) (p1 : Int32) (r : Int32 × St) (hf : f_X5_row M p1 = some r) : Ct l yX5_row wsX5_row rm_X5_row D cI (cM cI A M) (cM cI A r.2) [.ref (A 0), .int p1] (some (.int r.1)) := by
  unfold f_X5_row at hf
  refine Ct.ofI (cc := cX5_row) (maxL := 3) (by decide +kernel) rfl (Nat.le_of_ble_eq_true rfl) ?_
  intro p e s m args below meth c AA Q H locs ls hx hb hml hown hts hA hK hP hD hS hl hend0
  have hend : ∀ (r1 : Int32 × St) (H : Heap) (locs : List Loc) (pc : Nat) (ls : Array Slot), some r1 = some r → va_P D vwCl (cM cI A r1.2) H → va_S AA s.heap H locs → decode cX5_row pc = .ok (.ireturn, 1) → W p l e rm_X5_row s m args below meth c H locs 0 0 Q (F0 m pc ls [.int r1.1]) := by
    intro r1 H locs pc ls e1 hP hS hd; cases e1; exact hend0 H locs pc ls hP hS hd
  clear hend0
  have hw5 : ∀ w ∈ wsX50, w ∈ wsX5_row := by decide +kernel
  have k55 := hts (.fieldLink RX5 55 "AnchorsForConfessionModel" "row" "[I") (by decide +kernel)
  have k273 := hts (.fieldLink RX5 273 "AnchorsForConfessionModel" "rowMany" "I") (by decide +kernel)
  replace hl : lv_has ls 3 [(0, .ref (A 0)), (1, .int p1)] := hl
  refine lv_iload_n hx hb dX5_row_0 rfl (lv_at hl 1 rfl) ?_
  refine lv_iconst (v := 0) hx hb dX5_row_1 (by decide) ?_
  refine lv_bipush (v := 99) hx hb dX5_row_2 (by decide +kernel) ?_
  obtain ⟨a_1, ha_1, hf⟩ := bd_e hf
  refine Ct.callS (As := [.int p1, .int (0 : Int32), .int (99 : Int32)]) (rest := []) (st1 := [.int a_1]) (c_X5_bound l D cI  p1 (0 : Int32) (99 : Int32) a_1 ha_1) hx hb hml hown hts (va_cwS 3 hts gX5_row_X5_bound rfl rfl rfl hd_X5_bound ⟨Nat.le_of_ble_eq_true rfl, Nat.le_of_ble_eq_true rfl⟩) Ln.nil hA hK hP hD hS rfl hl.1 rfl rfl (Nat.le_of_ble_eq_true rfl) dX5_row_4 (fun H locs hP hD hS => ?_)
  refine lv_istore_n (lv' := [(2, .int a_1), (0, .ref (A 0)), (1, .int p1)]) hx hb dX5_row_7 rfl hl (by decide) rfl (fun ls hl => ?_)
  refine lv_iload_n hx hb dX5_row_8 rfl (lv_at hl 0 rfl) ?_
  refine lv_if_ne (tgt := 24) hx hb dX5_row_9 (by decide) (fun c_2 => ?_) (fun c_2 => ?_)
  · replace hf := if_f c_2 hf
    refine lv_iload_n hx hb dX5_row_24 rfl (lv_at hl 0 rfl) ?_
    refine lv_if_eq (tgt := 34) hx hb dX5_row_25 (by decide) (fun c_3 => ?_) (fun c_3 => ?_)
    · replace hf := if_t c_3 hf
      refine lv_aload_n hx hb dX5_row_34 rfl (lv_at hl 1 rfl) ?_
      refine va_get (D := D) (ci := 5) (v := .ref (A 16)) (C := RX5) (T := TX5) (N := 27) hx hb hts hw5 hown hK hP 0 cM_at0 rfl 25 (by decide) k55 (fun _ h9 => h9) rfl dX5_row_35 ?_
      refine lv_aload_n hx hb dX5_row_38 rfl (lv_at hl 1 rfl) ?_
      refine va_get (D := D) (ci := 5) (v := .int (M 16 10)) (C := RX5) (T := TX5) (N := 27) hx hb hts hw5 hown hK hP 0 cM_at0 rfl 26 (by decide) k273 (fun _ h9 => h9) rfl dX5_row_39 ?_
      refine lv_iload_n hx hb dX5_row_42 rfl (lv_at hl 2 rfl) ?_
      obtain ⟨c_4, hf⟩ := gi_e hf
      refine va_iast hx hb hK hP hD hS 16 0 cM_at16 rfl c_4 dX5_row_43 (fun H locs hP hD hS => ?_)
      obtain ⟨h_5, eh_5, hf⟩ := nm_e hf
      rw [cM_su16, ← eh_5] at hP hD
      refine lv_aload_n hx hb dX5_row_44 rfl (lv_at hl 1 rfl) ?_
      refine lv_dup hx hb dX5_row_45 rfl ?_
      refine va_get (D := D) (ci := 5) (v := .int (h_5 16 10)) (C := RX5) (T := TX5) (N := 27) hx hb hts hw5 hown hK hP 0 cM_at0 rfl 26 (by decide) k273 (fun _ h9 => h9) rfl dX5_row_46 ?_
      refine lv_iconst (v := 1) hx hb dX5_row_49 (by decide) ?_
      refine lv_iadd hx hb dX5_row_50 ?_
      refine va_put (D := D) (ci := 5) (v := .int ((h_5 16 10) + (1 : Int32))) (ty := .int) (C := RX5) (T := TX5) (N := 27) hx hb hts hw5 tyX5 tyX5_ok nmX5 hown hK hP hD hS 0 cM_at0 rfl 26 (by decide) k273 (fun _ h9 => h9) rfl (tyX5_ok 26 (by decide)) rfl rfl (Nat.le_of_ble_eq_true rfl) dX5_row_51 (fun H locs hP hD hS => ?_)
      obtain ⟨h_6, eh_6, hf⟩ := nm_e hf
      rw [cM_sc0_26, ← eh_6] at hP hD
      refine lv_aload_n hx hb dX5_row_54 rfl (lv_at hl 1 rfl) ?_
      refine va_get (D := D) (ci := 5) (v := .int (h_6 16 10)) (C := RX5) (T := TX5) (N := 27) hx hb hts hw5 hown hK hP 0 cM_at0 rfl 26 (by decide) k273 (fun _ h9 => h9) rfl dX5_row_55 ?_
      exact hend ((h_6 16 10), h_6) H locs _ _ hf hP hS dX5_row_58
    · replace hf := if_f c_3 hf
      refine lv_aload_n hx hb dX5_row_28 rfl (lv_at hl 1 rfl) ?_
      refine lv_iload_n hx hb dX5_row_29 rfl (lv_at hl 0 rfl) ?_
      obtain ⟨a_7, ha_7, hf⟩ := bd_e hf
      refine Ct.callV (As := [.int a_1]) (rest := []) (st1 := [.int a_7.1]) (c_X5_no l D cI A M a_1 a_7 ha_7) hx hb hml hown hts (cwV 1 hts gX5_row_X5_no rfl rfl rfl hd_X5_no ⟨Nat.le_of_ble_eq_true rfl, Nat.le_of_ble_eq_true rfl⟩) (va_recv hK hP (ci := 5) (q0 := 0) rfl cM_at0) (Ln.id rfl) hA hK hP hD hS rfl hl.1 rfl rfl (Nat.le_of_ble_eq_true rfl) dX5_row_30 (fun H locs hP hD hS => ?_)
      replace hP : va_P D vwCl (cM cI A a_7.2) H := hP
      replace hD : va_D AA (cM cI A a_7.2) := hD
      exact hend (a_7.1, a_7.2) H locs _ _ hf hP hS dX5_row_33
  · replace hf := if_t c_2 hf
    refine lv_aload_n hx hb dX5_row_12 rfl (lv_at hl 1 rfl) ?_
    refine va_get (D := D) (ci := 5) (v := .int (M 16 10)) (C := RX5) (T := TX5) (N := 27) hx hb hts hw5 hown hK hP 0 cM_at0 rfl 26 (by decide) k273 (fun _ h9 => h9) rfl dX5_row_13 ?_
    refine lv_bipush (v := 16) hx hb dX5_row_16 (by decide +kernel) ?_
    refine lv_icmp_ne (tgt := 24) hx hb dX5_row_18 (by decide) (fun c_8 => ?_) (fun c_8 => ?_)
    · replace hf := if_f c_8 hf
      refine lv_iload_n hx hb dX5_row_24 rfl (lv_at hl 0 rfl) ?_
      refine lv_if_eq (tgt := 34) hx hb dX5_row_25 (by decide) (fun c_9 => ?_) (fun c_9 => ?_)
      · replace hf := if_t c_9 hf
        refine lv_aload_n hx hb dX5_row_34 rfl (lv_at hl 1 rfl) ?_
        refine va_get (D := D) (ci := 5) (v := .ref (A 16)) (C := RX5) (T := TX5) (N := 27) hx hb hts hw5 hown hK hP 0 cM_at0 rfl 25 (by decide) k55 (fun _ h9 => h9) rfl dX5_row_35 ?_
        refine lv_aload_n hx hb dX5_row_38 rfl (lv_at hl 1 rfl) ?_
        refine va_get (D := D) (ci := 5) (v := .int (M 16 10)) (C := RX5) (T := TX5) (N := 27) hx hb hts hw5 hown hK hP 0 cM_at0 rfl 26 (by decide) k273 (fun _ h9 => h9) rfl dX5_row_39 ?_
        refine lv_iload_n hx hb dX5_row_42 rfl (lv_at hl 2 rfl) ?_
        obtain ⟨c_10, hf⟩ := gi_e hf
        refine va_iast hx hb hK hP hD hS 16 0 cM_at16 rfl c_10 dX5_row_43 (fun H locs hP hD hS => ?_)
        obtain ⟨h_11, eh_11, hf⟩ := nm_e hf
        rw [cM_su16, ← eh_11] at hP hD
        refine lv_aload_n hx hb dX5_row_44 rfl (lv_at hl 1 rfl) ?_
        refine lv_dup hx hb dX5_row_45 rfl ?_
        refine va_get (D := D) (ci := 5) (v := .int (h_11 16 10)) (C := RX5) (T := TX5) (N := 27) hx hb hts hw5 hown hK hP 0 cM_at0 rfl 26 (by decide) k273 (fun _ h9 => h9) rfl dX5_row_46 ?_
        refine lv_iconst (v := 1) hx hb dX5_row_49 (by decide) ?_
        refine lv_iadd hx hb dX5_row_50 ?_
        refine va_put (D := D) (ci := 5) (v := .int ((h_11 16 10) + (1 : Int32))) (ty := .int) (C := RX5) (T := TX5) (N := 27) hx hb hts hw5 tyX5 tyX5_ok nmX5 hown hK hP hD hS 0 cM_at0 rfl 26 (by decide) k273 (fun _ h9 => h9) rfl (tyX5_ok 26 (by decide)) rfl rfl (Nat.le_of_ble_eq_true rfl) dX5_row_51 (fun H locs hP hD hS => ?_)
        obtain ⟨h_12, eh_12, hf⟩ := nm_e hf
        rw [cM_sc0_26, ← eh_12] at hP hD
        refine lv_aload_n hx hb dX5_row_54 rfl (lv_at hl 1 rfl) ?_
        refine va_get (D := D) (ci := 5) (v := .int (h_12 16 10)) (C := RX5) (T := TX5) (N := 27) hx hb hts hw5 hown hK hP 0 cM_at0 rfl 26 (by decide) k273 (fun _ h9 => h9) rfl dX5_row_55 ?_
        exact hend ((h_12 16 10), h_12) H locs _ _ hf hP hS dX5_row_58
      · replace hf := if_f c_9 hf
        refine lv_aload_n hx hb dX5_row_28 rfl (lv_at hl 1 rfl) ?_
        refine lv_iload_n hx hb dX5_row_29 rfl (lv_at hl 0 rfl) ?_
        obtain ⟨a_13, ha_13, hf⟩ := bd_e hf
        refine Ct.callV (As := [.int a_1]) (rest := []) (st1 := [.int a_13.1]) (c_X5_no l D cI A M a_1 a_13 ha_13) hx hb hml hown hts (cwV 1 hts gX5_row_X5_no rfl rfl rfl hd_X5_no ⟨Nat.le_of_ble_eq_true rfl, Nat.le_of_ble_eq_true rfl⟩) (va_recv hK hP (ci := 5) (q0 := 0) rfl cM_at0) (Ln.id rfl) hA hK hP hD hS rfl hl.1 rfl rfl (Nat.le_of_ble_eq_true rfl) dX5_row_30 (fun H locs hP hD hS => ?_)
        replace hP : va_P D vwCl (cM cI A a_13.2) H := hP
        replace hD : va_D AA (cM cI A a_13.2) := hD
        exact hend (a_13.1, a_13.2) H locs _ _ hf hP hS dX5_row_33
    · replace hf := if_t c_8 hf
      refine lv_bipush (v := -6) hx hb dX5_row_21 (by decide +kernel) ?_
      refine lv_istore_n (lv' := [(2, .int (-6 : Int32)), (0, .ref (A 0)), (1, .int p1)]) hx hb dX5_row_23 rfl hl (by decide) rfl (fun ls hl => ?_)
      refine lv_iload_n hx hb dX5_row_24 rfl (lv_at hl 0 rfl) ?_
      refine lv_if_eq (tgt := 34) hx hb dX5_row_25 (by decide) (fun c0 => absurd c0 (by decide)) (fun _ => ?_)
      refine lv_aload_n hx hb dX5_row_28 rfl (lv_at hl 1 rfl) ?_
      refine lv_iload_n hx hb dX5_row_29 rfl (lv_at hl 0 rfl) ?_
      obtain ⟨a_14, ha_14, hf⟩ := bd_e hf
      refine Ct.callV (As := [.int (-6 : Int32)]) (rest := []) (st1 := [.int a_14.1]) (c_X5_no l D cI A M (-6 : Int32) a_14 ha_14) hx hb hml hown hts (cwV 1 hts gX5_row_X5_no rfl rfl rfl hd_X5_no ⟨Nat.le_of_ble_eq_true rfl, Nat.le_of_ble_eq_true rfl⟩) (va_recv hK hP (ci := 5) (q0 := 0) rfl cM_at0) (Ln.id rfl) hA hK hP hD hS rfl hl.1 rfl rfl (Nat.le_of_ble_eq_true rfl) dX5_row_30 (fun H locs hP hD hS => ?_)
      replace hP : va_P D vwCl (cM cI A a_14.2) H := hP
      replace hD : va_D AA (cM cI A a_14.2) := hD
      exact hend (a_14.1, a_14.2) H locs _ _ hf hP hS dX5_row_33

def f_X5_judge (M : St) : Option (Int32 × St) := (nm (M 16 10) fun v_1 => (nm (su M 16 10 (0 : Int32)) fun h_2 => (lp (fun (nx12 : Int32 → Option (Int32 × St)) (q12 : Int32) => (if v_1 ≤ q12 then (some ((-9 : Int32), h_2)) else (if (h_2 16 0) ≤ q12 then (some (q12, h_2)) else (bd (f_X5_holds h_2 q12) fun a_5 => (gi q12 16 (if a_5 = (h_2 15 (q12).toNatClampNeg) then (nm (q12 + (1 : Int32)) fun v_8 => (nx12 v_8)) else (some (q12, h_2)))))))) 1000 (0 : Int32))))
def rm_X5_judge : Room := { frames := 1, cells := 0, slots := 0, locals := 21 }
theorem hd_X5_judge : yX5_judge.cls = RX5 ∧ yX5_judge.cls ≠ "java/lang/invoke/MethodHandle" ∧ yX5_judge.cls ≠ "java/lang/invoke/VarHandle" ∧ (parseMethodDescriptor yX5_judge.desc).map (fun d => d.parameters.length) = some 0 := by decide +kernel
set_option maxRecDepth 100000 in
set_option maxHeartbeats 4000000 in
theorem c_X5_judge (l : Launch) (D : va_G) (cI : ClassId) (A : Nat → Nat) (M : St) (r : Int32 × St) (hf : f_X5_judge M = some r) : Ct l yX5_judge wsX5_judge rm_X5_judge D cI (cM cI A M) (cM cI A r.2) [.ref (A 0)] (some (.int r.1)) := by
  unfold f_X5_judge at hf
  refine Ct.ofI (cc := cX5_judge) (maxL := 3) (by decide +kernel) rfl (Nat.le_of_ble_eq_true rfl) ?_
  intro p e s m args below meth c AA Q H locs ls hx hb hml hown hts hA hK hP hD hS hl hend0
  have hend : ∀ (r1 : Int32 × St) (H : Heap) (locs : List Loc) (pc : Nat) (ls : Array Slot), some r1 = some r → va_P D vwCl (cM cI A r1.2) H → va_S AA s.heap H locs → decode cX5_judge pc = .ok (.ireturn, 1) → W p l e rm_X5_judge s m args below meth c H locs 0 0 Q (F0 m pc ls [.int r1.1]) := by
    intro r1 H locs pc ls e1 hP hS hd; cases e1; exact hend0 H locs pc ls hP hS hd
  clear hend0
  have hw5 : ∀ w ∈ wsX50, w ∈ wsX5_judge := by decide +kernel
  have k55 := hts (.fieldLink RX5 55 "AnchorsForConfessionModel" "row" "[I") (by decide +kernel)
  have k58 := hts (.fieldLink RX5 58 "AnchorsForConfessionModel" "ships" "I") (by decide +kernel)
  have k273 := hts (.fieldLink RX5 273 "AnchorsForConfessionModel" "rowMany" "I") (by decide +kernel)
  replace hl : lv_has ls 3 [(0, .ref (A 0))] := hl
  refine lv_aload_n hx hb dX5_judge_0 rfl (lv_at hl 0 rfl) ?_
  refine va_get (D := D) (ci := 5) (v := .int (M 16 10)) (C := RX5) (T := TX5) (N := 27) hx hb hts hw5 hown hK hP 0 cM_at0 rfl 26 (by decide) k273 (fun _ h9 => h9) rfl dX5_judge_1 ?_
  refine lv_topi (fun v_1 ev_1 => ?_)
  replace hf := nm_at ev_1 hf
  refine lv_istore_n (lv' := [(1, .int v_1), (0, .ref (A 0))]) hx hb dX5_judge_4 rfl hl (by decide) rfl (fun ls hl => ?_)
  refine lv_aload_n hx hb dX5_judge_5 rfl (lv_at hl 1 rfl) ?_
  refine lv_iconst (v := 0) hx hb dX5_judge_6 (by decide) ?_
  refine va_put (D := D) (ci := 5) (v := .int (0 : Int32)) (ty := .int) (C := RX5) (T := TX5) (N := 27) hx hb hts hw5 tyX5 tyX5_ok nmX5 hown hK hP hD hS 0 cM_at0 rfl 26 (by decide) k273 (fun _ h9 => h9) rfl (tyX5_ok 26 (by decide)) rfl rfl (Nat.le_of_ble_eq_true rfl) dX5_judge_7 (fun H locs hP hD hS => ?_)
  obtain ⟨h_2, eh_2, hf⟩ := nm_e hf
  rw [cM_sc0_26, ← eh_2] at hP hD
  refine lv_iconst (v := 0) hx hb dX5_judge_10 (by decide) ?_
  refine lv_istore_n (lv' := [(2, .int (0 : Int32)), (1, .int v_1), (0, .ref (A 0))]) hx hb dX5_judge_11 rfl hl (by decide) rfl (fun ls hl => ?_)
  refine lp_ind (P := fun (q12 : Int32) => ∀ (H : Heap) (locs : List Loc) (ls : Array Slot), va_P D vwCl (cM cI A h_2) H → va_D AA (cM cI A h_2) → va_S AA s.heap H locs → lv_has ls 3 [(0, .ref (A 0)), (1, .int v_1), (2, .int q12)] → W p l e rm_X5_judge s m args below meth c H locs 0 0 Q (F0 m 12 ls [])) hf ?_ H locs ls hP hD hS (lv_sub hl [2, 1, 0] rfl)
  clear hf hP hD hS hl
  intro nx12 ih12 q12 hf H locs ls hP hD hS hl
  refine lv_iload_n hx hb dX5_judge_12 rfl (lv_at hl 2 rfl) ?_
  refine lv_iload_n hx hb dX5_judge_13 rfl (lv_at hl 1 rfl) ?_
  refine lv_icmp_ge (tgt := 47) hx hb dX5_judge_14 (by decide) (fun c_3 => ?_) (fun c_3 => ?_)
  · replace hf := if_t c_3 hf
    refine lv_bipush (v := -9) hx hb dX5_judge_47 (by decide +kernel) ?_
    exact hend ((-9 : Int32), h_2) H locs _ _ hf hP hS dX5_judge_49
  · replace hf := if_f c_3 hf
    refine lv_iload_n hx hb dX5_judge_17 rfl (lv_at hl 2 rfl) ?_
    refine lv_aload_n hx hb dX5_judge_18 rfl (lv_at hl 0 rfl) ?_
    refine va_get (D := D) (ci := 5) (v := .int (h_2 16 0)) (C := RX5) (T := TX5) (N := 27) hx hb hts hw5 hown hK hP 0 cM_at0 rfl 8 (by decide) k58 (fun _ h9 => h9) rfl dX5_judge_19 ?_
    refine lv_icmp_ge (tgt := 39) hx hb dX5_judge_22 (by decide) (fun c_4 => ?_) (fun c_4 => ?_)
    · replace hf := if_t c_4 hf
      refine lv_iload_n hx hb dX5_judge_39 rfl (lv_at hl 2 rfl) ?_
      exact hend (q12, h_2) H locs _ _ hf hP hS dX5_judge_40
    · replace hf := if_f c_4 hf
      refine lv_aload_n hx hb dX5_judge_25 rfl (lv_at hl 0 rfl) ?_
      refine lv_iload_n hx hb dX5_judge_26 rfl (lv_at hl 2 rfl) ?_
      obtain ⟨a_5, ha_5, hf⟩ := bd_e hf
      refine Ct.callV (As := [.int q12]) (rest := []) (st1 := [.int a_5]) (c_X5_holds l D cI A h_2 q12 a_5 ha_5) hx hb hml hown hts (cwV 1 hts gX5_judge_X5_holds rfl rfl rfl hd_X5_holds ⟨Nat.le_of_ble_eq_true rfl, Nat.le_of_ble_eq_true rfl⟩) (va_recv hK hP (ci := 5) (q0 := 0) rfl cM_at0) (Ln.id rfl) hA hK hP hD hS rfl hl.1 rfl rfl (Nat.le_of_ble_eq_true rfl) dX5_judge_27 (fun H locs hP hD hS => ?_)
      refine lv_aload_n hx hb dX5_judge_30 rfl (lv_at hl 0 rfl) ?_
      refine va_get (D := D) (ci := 5) (v := .ref (A 16)) (C := RX5) (T := TX5) (N := 27) hx hb hts hw5 hown hK hP 0 cM_at0 rfl 25 (by decide) k55 (fun _ h9 => h9) rfl dX5_judge_31 ?_
      refine lv_iload_n hx hb dX5_judge_34 rfl (lv_at hl 2 rfl) ?_
      obtain ⟨c_6, hf⟩ := gi_e hf
      refine va_iald hx hb hK hP 16 0 cM_at16 rfl c_6 dX5_judge_35 ?_
      refine lv_icmp_eq (tgt := 41) hx hb dX5_judge_36 (by decide) (fun c_7 => ?_) (fun c_7 => ?_)
      · replace hf := if_t c_7 hf
        obtain ⟨v_8, ev_8, hf⟩ := nm_e hf
        refine lv_iinc (v := v_8) (lv' := [(2, .int v_8), (0, .ref (A 0)), (1, .int v_1)]) hx hb dX5_judge_41 hl (k := 2) rfl (by rw [ev_8]; rfl) (by decide) rfl (fun ls hl => ?_)
        refine lv_goto (tgt := 12) hx hb dX5_judge_44 (by decide) ?_
        exact ih12 v_8 hf H locs ls hP hD hS (lv_sub hl [1, 2, 0] rfl)
      · replace hf := if_f c_7 hf
        refine lv_iload_n hx hb dX5_judge_39 rfl (lv_at hl 2 rfl) ?_
        exact hend (q12, h_2) H locs _ _ hf hP hS dX5_judge_40

def f_X5_clear (M : St) : Option (Int32 × St) := (nm (M 16 10) fun v_1 => (nm (su M 16 10 (0 : Int32)) fun h_2 => (some (v_1, h_2))))
def rm_X5_clear : Room := { frames := 0, cells := 0, slots := 0, locals := 0 }
theorem hd_X5_clear : yX5_clear.cls = RX5 ∧ yX5_clear.cls ≠ "java/lang/invoke/MethodHandle" ∧ yX5_clear.cls ≠ "java/lang/invoke/VarHandle" ∧ (parseMethodDescriptor yX5_clear.desc).map (fun d => d.parameters.length) = some 0 := by decide +kernel
set_option maxRecDepth 100000 in
set_option maxHeartbeats 4000000 in
theorem c_X5_clear (l : Launch) (D : va_G) (cI : ClassId) (A : Nat → Nat) (M : St) (r : Int32 × St) (hf : f_X5_clear M = some r) : Ct l yX5_clear wsX5_clear rm_X5_clear D cI (cM cI A M) (cM cI A r.2) [.ref (A 0)] (some (.int r.1)) := by
  unfold f_X5_clear at hf
  refine Ct.ofI (cc := cX5_clear) (maxL := 2) (by decide +kernel) rfl (Nat.le_of_ble_eq_true rfl) ?_
  intro p e s m args below meth c AA Q H locs ls hx hb hml hown hts hA hK hP hD hS hl hend0
  have hend : ∀ (r1 : Int32 × St) (H : Heap) (locs : List Loc) (pc : Nat) (ls : Array Slot), some r1 = some r → va_P D vwCl (cM cI A r1.2) H → va_S AA s.heap H locs → decode cX5_clear pc = .ok (.ireturn, 1) → W p l e rm_X5_clear s m args below meth c H locs 0 0 Q (F0 m pc ls [.int r1.1]) := by
    intro r1 H locs pc ls e1 hP hS hd; cases e1; exact hend0 H locs pc ls hP hS hd
  clear hend0
  have hw5 : ∀ w ∈ wsX50, w ∈ wsX5_clear := by decide +kernel
  have k273 := hts (.fieldLink RX5 273 "AnchorsForConfessionModel" "rowMany" "I") (by decide +kernel)
  replace hl : lv_has ls 2 [(0, .ref (A 0))] := hl
  refine lv_aload_n hx hb dX5_clear_0 rfl (lv_at hl 0 rfl) ?_
  refine va_get (D := D) (ci := 5) (v := .int (M 16 10)) (C := RX5) (T := TX5) (N := 27) hx hb hts hw5 hown hK hP 0 cM_at0 rfl 26 (by decide) k273 (fun _ h9 => h9) rfl dX5_clear_1 ?_
  refine lv_topi (fun v_1 ev_1 => ?_)
  replace hf := nm_at ev_1 hf
  refine lv_istore_n (lv' := [(1, .int v_1), (0, .ref (A 0))]) hx hb dX5_clear_4 rfl hl (by decide) rfl (fun ls hl => ?_)
  refine lv_aload_n hx hb dX5_clear_5 rfl (lv_at hl 1 rfl) ?_
  refine lv_iconst (v := 0) hx hb dX5_clear_6 (by decide) ?_
  refine va_put (D := D) (ci := 5) (v := .int (0 : Int32)) (ty := .int) (C := RX5) (T := TX5) (N := 27) hx hb hts hw5 tyX5 tyX5_ok nmX5 hown hK hP hD hS 0 cM_at0 rfl 26 (by decide) k273 (fun _ h9 => h9) rfl (tyX5_ok 26 (by decide)) rfl rfl (Nat.le_of_ble_eq_true rfl) dX5_clear_7 (fun H locs hP hD hS => ?_)
  obtain ⟨h_2, eh_2, hf⟩ := nm_e hf
  rw [cM_sc0_26, ← eh_2] at hP hD
  refine lv_iload_n hx hb dX5_clear_10 rfl (lv_at hl 0 rfl) ?_
  exact hend (v_1, h_2) H locs _ _ hf hP hS dX5_clear_11

def f_X5_lots (M : St) (p1 : Int32) (p2 : Int32) (p3 : Int32) : Option (Int32 × St) := (bd (f_X5_bound p1 (1 : Int32) (20 : Int32)) fun a_1 => (if a_1 = 0 then (bd (f_X5_isIn p3 (0 : Int32) (1 : Int32)) fun a_26 => (if a_26 = 0 then (bd (f_X5_no M (-2 : Int32)) fun a_51 => (some (a_51.1, a_51.2))) else (if (M 16 1) = 0 then (bd (f_X5_no M (-3 : Int32)) fun a_50 => (some (a_50.1, a_50.2))) else (lp (fun (nx67 : (Int32 × Int32 × Int32 × Int32 × St) → Option (Int32 × St)) (q67 : Int32 × Int32 × Int32 × Int32 × St) => (if p1 ≤ q67.2.2.2.1 then (if p3 = 0 then (some (q67.2.1, q67.2.2.2.2)) else (some (q67.2.2.1, q67.2.2.2.2))) else (bd (f_X5_thinks q67.2.2.2.2) fun a_31 => (lp (fun (nx80 : (Int32 × Int32 × Int32 × St) → Option (Int32 × St)) (q80 : Int32 × Int32 × Int32 × St) => (if (12 : Int32) ≤ q80.2.2.1 then (bd (f_X5_allSins q80.2.2.2) fun a_33 => (nm (q67.2.2.1 + a_33) fun v_34 => (bd (f_X5_forgets q80.2.2.2) fun a_35 => (nm (q67.2.2.2.1 + (1 : Int32)) fun v_36 => (nx67 (q80.1, q80.2.1, v_34, v_36, a_35)))))) else (nm ((q80.1 * (1664525 : Int32)) + (1013904223 : Int32)) fun v_37 => (gd (¬ (q80.2.2.2 16 1) = 0) (nm (((v_37 &&& (2147483647 : Int32)) / (256 : Int32)) - ((v_37 &&& (2147483647 : Int32)) / (256 : Int32)) / (q80.2.2.2 16 1) * (q80.2.2.2 16 1)) fun v_40 => (bd (f_X5_canTell q80.2.2.2 v_40) fun a_41 => (if a_41 = 0 then (nm (q80.2.1 + (0 : Int32)) fun v_43 => (bd (f_X5_goesTide q80.2.2.2) fun a_44 => (nm (q80.2.2.1 + (1 : Int32)) fun v_45 => (nx80 (v_37, v_43, v_45, a_44))))) else (bd (f_X5_tellsOne q80.2.2.2 v_40) fun a_46 => (nm (q80.2.1 + a_46.1) fun v_47 => (bd (f_X5_goesTide a_46.2) fun a_48 => (nm (q80.2.2.1 + (1 : Int32)) fun v_49 => (nx80 (v_37, v_47, v_49, a_48))))))))))))) 1000 (q67.1, q67.2.1, (0 : Int32), a_31))))) 1000 (p2, (0 : Int32), (0 : Int32), (0 : Int32), M))))) else (if a_1 = 0 then (lp (fun (nx67 : (Int32 × Int32 × Int32 × Int32 × St) → Option (Int32 × St)) (q67 : Int32 × Int32 × Int32 × Int32 × St) => (if p1 ≤ q67.2.2.2.1 then (if p3 = 0 then (some (q67.2.1, q67.2.2.2.2)) else (some (q67.2.2.1, q67.2.2.2.2))) else (bd (f_X5_thinks q67.2.2.2.2) fun a_6 => (lp (fun (nx80 : (Int32 × Int32 × Int32 × St) → Option (Int32 × St)) (q80 : Int32 × Int32 × Int32 × St) => (if (12 : Int32) ≤ q80.2.2.1 then (bd (f_X5_allSins q80.2.2.2) fun a_8 => (nm (q67.2.2.1 + a_8) fun v_9 => (bd (f_X5_forgets q80.2.2.2) fun a_10 => (nm (q67.2.2.2.1 + (1 : Int32)) fun v_11 => (nx67 (q80.1, q80.2.1, v_9, v_11, a_10)))))) else (nm ((q80.1 * (1664525 : Int32)) + (1013904223 : Int32)) fun v_12 => (gd (¬ (q80.2.2.2 16 1) = 0) (nm (((v_12 &&& (2147483647 : Int32)) / (256 : Int32)) - ((v_12 &&& (2147483647 : Int32)) / (256 : Int32)) / (q80.2.2.2 16 1) * (q80.2.2.2 16 1)) fun v_15 => (bd (f_X5_canTell q80.2.2.2 v_15) fun a_16 => (if a_16 = 0 then (nm (q80.2.1 + (0 : Int32)) fun v_18 => (bd (f_X5_goesTide q80.2.2.2) fun a_19 => (nm (q80.2.2.1 + (1 : Int32)) fun v_20 => (nx80 (v_12, v_18, v_20, a_19))))) else (bd (f_X5_tellsOne q80.2.2.2 v_15) fun a_21 => (nm (q80.2.1 + a_21.1) fun v_22 => (bd (f_X5_goesTide a_21.2) fun a_23 => (nm (q80.2.2.1 + (1 : Int32)) fun v_24 => (nx80 (v_12, v_22, v_24, a_23))))))))))))) 1000 (q67.1, q67.2.1, (0 : Int32), a_6))))) 1000 (p2, (0 : Int32), (0 : Int32), (0 : Int32), M)) else (bd (f_X5_no M a_1) fun a_25 => (some (a_25.1, a_25.2))))))
def rm_X5_lots : Room := { frames := 4, cells := 0, slots := 0, locals := 88 }
theorem hd_X5_lots : yX5_lots.cls = RX5 ∧ yX5_lots.cls ≠ "java/lang/invoke/MethodHandle" ∧ yX5_lots.cls ≠ "java/lang/invoke/VarHandle" ∧ (parseMethodDescriptor yX5_lots.desc).map (fun d => d.parameters.length) = some 3 := by decide +kernel
set_option maxRecDepth 100000 in
set_option maxHeartbeats 4000000 in
theorem c_X5_lots (l : Launch) (D : va_G) (cI : ClassId) (A : Nat → Nat) (M : St) (p1 : Int32) (p2 : Int32) (p3 : Int32) (r : Int32 × St) (hf : f_X5_lots M p1 p2 p3 = some r) : Ct l yX5_lots wsX5_lots rm_X5_lots D cI (cM cI A M) (cM cI A r.2) [.ref (A 0), .int p1, .int p2, .int p3] (some (.int r.1)) := by
  unfold f_X5_lots at hf
  refine Ct.ofI (cc := cX5_lots) (maxL := 11) (by decide +kernel) rfl (Nat.le_of_ble_eq_true rfl) ?_
  intro p e s m args below meth c AA Q H locs ls hx hb hml hown hts hA hK hP hD hS hl hend0
  have hend : ∀ (r1 : Int32 × St) (H : Heap) (locs : List Loc) (pc : Nat) (ls : Array Slot), some r1 = some r → va_P D vwCl (cM cI A r1.2) H → va_S AA s.heap H locs → decode cX5_lots pc = .ok (.ireturn, 1) → W p l e rm_X5_lots s m args below meth c H locs 0 0 Q (F0 m pc ls [.int r1.1]) := by
    intro r1 H locs pc ls e1 hP hS hd; cases e1; exact hend0 H locs pc ls hP hS hd
  clear hend0
  have hw5 : ∀ w ∈ wsX50, w ∈ wsX5_lots := by decide +kernel
  have k65 := hts (.fieldLink RX5 65 "AnchorsForConfessionModel" "men" "I") (by decide +kernel)
  have kc283 := hts (.constant RX5 283 1664525) (by decide +kernel)
  have kc284 := hts (.constant RX5 284 1013904223) (by decide +kernel)
  have kc285 := hts (.constant RX5 285 2147483647) (by decide +kernel)
  replace hl : lv_has ls 11 [(0, .ref (A 0)), (1, .int p1), (2, .int p2), (3, .int p3)] := hl
  refine lv_iload_n hx hb dX5_lots_0 rfl (lv_at hl 1 rfl) ?_
  refine lv_iconst (v := 1) hx hb dX5_lots_1 (by decide) ?_
  refine lv_bipush (v := 20) hx hb dX5_lots_2 (by decide +kernel) ?_
  obtain ⟨a_1, ha_1, hf⟩ := bd_e hf
  refine Ct.callS (As := [.int p1, .int (1 : Int32), .int (20 : Int32)]) (rest := []) (st1 := [.int a_1]) (c_X5_bound l D cI  p1 (1 : Int32) (20 : Int32) a_1 ha_1) hx hb hml hown hts (va_cwS 3 hts gX5_lots_X5_bound rfl rfl rfl hd_X5_bound ⟨Nat.le_of_ble_eq_true rfl, Nat.le_of_ble_eq_true rfl⟩) Ln.nil hA hK hP hD hS rfl hl.1 rfl rfl (Nat.le_of_ble_eq_true rfl) dX5_lots_4 (fun H locs hP hD hS => ?_)
  refine lv_istore (lv' := [(4, .int a_1), (0, .ref (A 0)), (1, .int p1), (2, .int p2), (3, .int p3)]) hx hb dX5_lots_7 hl (by decide) rfl (fun ls hl => ?_)
  refine lv_iload hx hb dX5_lots_9 (lv_at hl 0 rfl) ?_
  refine lv_if_ne (tgt := 43) hx hb dX5_lots_11 (by decide) (fun c_2 => ?_) (fun c_2 => ?_)
  · replace hf := if_f c_2 hf
    refine lv_iload hx hb dX5_lots_43 (lv_at hl 0 rfl) ?_
    refine lv_if_eq (tgt := 55) hx hb dX5_lots_45 (by decide) (fun c_3 => ?_) (fun c_3 => ?_)
    · replace hf := if_t c_3 hf
      refine lv_iload_n hx hb dX5_lots_55 rfl (lv_at hl 3 rfl) ?_
      refine lv_istore (lv' := [(5, .int p2), (4, .int a_1), (0, .ref (A 0)), (1, .int p1), (2, .int p2), (3, .int p3)]) hx hb dX5_lots_56 hl (by decide) rfl (fun ls hl => ?_)
      refine lv_iconst (v := 0) hx hb dX5_lots_58 (by decide) ?_
      refine lv_istore (lv' := [(6, .int (0 : Int32)), (5, .int p2), (4, .int a_1), (0, .ref (A 0)), (1, .int p1), (2, .int p2), (3, .int p3)]) hx hb dX5_lots_59 hl (by decide) rfl (fun ls hl => ?_)
      refine lv_iconst (v := 0) hx hb dX5_lots_61 (by decide) ?_
      refine lv_istore (lv' := [(7, .int (0 : Int32)), (6, .int (0 : Int32)), (5, .int p2), (4, .int a_1), (0, .ref (A 0)), (1, .int p1), (2, .int p2), (3, .int p3)]) hx hb dX5_lots_62 hl (by decide) rfl (fun ls hl => ?_)
      refine lv_iconst (v := 0) hx hb dX5_lots_64 (by decide) ?_
      refine lv_istore (lv' := [(8, .int (0 : Int32)), (7, .int (0 : Int32)), (6, .int (0 : Int32)), (5, .int p2), (4, .int a_1), (0, .ref (A 0)), (1, .int p1), (2, .int p2), (3, .int p3)]) hx hb dX5_lots_65 hl (by decide) rfl (fun ls hl => ?_)
      refine lp_ind (P := fun (q67 : Int32 × Int32 × Int32 × Int32 × St) => ∀ (H : Heap) (locs : List Loc) (ls : Array Slot), va_P D vwCl (cM cI A q67.2.2.2.2) H → va_D AA (cM cI A q67.2.2.2.2) → va_S AA s.heap H locs → lv_has ls 11 [(0, .ref (A 0)), (1, .int p1), (3, .int p3), (5, .int q67.1), (6, .int q67.2.1), (7, .int q67.2.2.1), (8, .int q67.2.2.2.1)] → W p l e rm_X5_lots s m args below meth c H locs 0 0 Q (F0 m 67 ls [])) hf ?_ H locs ls hP hD hS (lv_sub hl [5, 6, 8, 3, 2, 1, 0] rfl)
      clear hf hP hD hS hl
      intro nx67 ih67 q67 hf H locs ls hP hD hS hl
      refine lv_iload hx hb dX5_lots_67 (lv_at hl 6 rfl) ?_
      refine lv_iload_n hx hb dX5_lots_69 rfl (lv_at hl 1 rfl) ?_
      refine lv_icmp_ge (tgt := 169) hx hb dX5_lots_70 (by decide) (fun c_4 => ?_) (fun c_4 => ?_)
      · replace hf := if_t c_4 hf
        refine lv_iload_n hx hb dX5_lots_169 rfl (lv_at hl 2 rfl) ?_
        refine lv_if_ne (tgt := 178) hx hb dX5_lots_170 (by decide) (fun c_5 => ?_) (fun c_5 => ?_)
        · replace hf := if_f c_5 hf
          refine lv_iload hx hb dX5_lots_178 (lv_at hl 5 rfl) ?_
          exact hend (q67.2.2.1, q67.2.2.2.2) H locs _ _ hf hP hS dX5_lots_180
        · replace hf := if_t c_5 hf
          refine lv_iload hx hb dX5_lots_173 (lv_at hl 4 rfl) ?_
          refine lv_goto (tgt := 180) hx hb dX5_lots_175 (by decide) ?_
          exact hend (q67.2.1, q67.2.2.2.2) H locs _ _ hf hP hS dX5_lots_180
      · replace hf := if_f c_4 hf
        refine lv_aload_n hx hb dX5_lots_73 rfl (lv_at hl 0 rfl) ?_
        obtain ⟨a_6, ha_6, hf⟩ := bd_e hf
        refine Ct.callV (As := []) (rest := []) (st1 := []) (c_X5_thinks l D cI A q67.2.2.2.2 a_6 ha_6) hx hb hml hown hts (cwV 0 hts gX5_lots_X5_thinks rfl rfl rfl hd_X5_thinks ⟨Nat.le_of_ble_eq_true rfl, Nat.le_of_ble_eq_true rfl⟩) (va_recv hK hP (ci := 5) (q0 := 0) rfl cM_at0) (Ln.id rfl) hA hK hP hD hS rfl hl.1 rfl rfl (Nat.le_of_ble_eq_true rfl) dX5_lots_74 (fun H locs hP hD hS => ?_)
        replace hP : va_P D vwCl (cM cI A a_6) H := hP
        replace hD : va_D AA (cM cI A a_6) := hD
        refine lv_iconst (v := 0) hx hb dX5_lots_77 (by decide) ?_
        refine lv_istore (lv' := [(9, .int (0 : Int32)), (0, .ref (A 0)), (1, .int p1), (3, .int p3), (5, .int q67.1), (6, .int q67.2.1), (7, .int q67.2.2.1), (8, .int q67.2.2.2.1)]) hx hb dX5_lots_78 hl (by decide) rfl (fun ls hl => ?_)
        refine lp_ind (P := fun (q80 : Int32 × Int32 × Int32 × St) => ∀ (H : Heap) (locs : List Loc) (ls : Array Slot), va_P D vwCl (cM cI A q80.2.2.2) H → va_D AA (cM cI A q80.2.2.2) → va_S AA s.heap H locs → lv_has ls 11 [(0, .ref (A 0)), (1, .int p1), (3, .int p3), (5, .int q80.1), (6, .int q80.2.1), (7, .int q67.2.2.1), (8, .int q67.2.2.2.1), (9, .int q80.2.2.1)] → W p l e rm_X5_lots s m args below meth c H locs 0 0 Q (F0 m 80 ls [])) hf ?_ H locs ls hP hD hS (lv_sub hl [1, 2, 3, 4, 5, 6, 7, 0] rfl)
        clear hf hP hD hS hl
        intro nx80 ih80 q80 hf H locs ls hP hD hS hl
        refine lv_iload hx hb dX5_lots_80 (lv_at hl 7 rfl) ?_
        refine lv_bipush (v := 12) hx hb dX5_lots_82 (by decide +kernel) ?_
        refine lv_icmp_ge (tgt := 150) hx hb dX5_lots_84 (by decide) (fun c_7 => ?_) (fun c_7 => ?_)
        · replace hf := if_t c_7 hf
          refine lv_iload hx hb dX5_lots_150 (lv_at hl 5 rfl) ?_
          refine lv_aload_n hx hb dX5_lots_152 rfl (lv_at hl 0 rfl) ?_
          obtain ⟨a_8, ha_8, hf⟩ := bd_e hf
          refine Ct.callV (As := []) (rest := [.int q67.2.2.1]) (st1 := [.int a_8, .int q67.2.2.1]) (c_X5_allSins l D cI A q80.2.2.2 a_8 ha_8) hx hb hml hown hts (cwV 0 hts gX5_lots_X5_allSins rfl rfl rfl hd_X5_allSins ⟨Nat.le_of_ble_eq_true rfl, Nat.le_of_ble_eq_true rfl⟩) (va_recv hK hP (ci := 5) (q0 := 0) rfl cM_at0) (Ln.id rfl) hA hK hP hD hS rfl hl.1 rfl rfl (Nat.le_of_ble_eq_true rfl) dX5_lots_153 (fun H locs hP hD hS => ?_)
          refine lv_iadd hx hb dX5_lots_156 ?_
          refine lv_topi (fun v_9 ev_9 => ?_)
          replace hf := nm_at ev_9 hf
          refine lv_istore (lv' := [(7, .int v_9), (0, .ref (A 0)), (1, .int p1), (3, .int p3), (5, .int q80.1), (6, .int q80.2.1), (8, .int q67.2.2.2.1), (9, .int q80.2.2.1)]) hx hb dX5_lots_157 hl (by decide) rfl (fun ls hl => ?_)
          refine lv_aload_n hx hb dX5_lots_159 rfl (lv_at hl 1 rfl) ?_
          obtain ⟨a_10, ha_10, hf⟩ := bd_e hf
          refine Ct.callV (As := []) (rest := []) (st1 := []) (c_X5_forgets l D cI A q80.2.2.2 a_10 ha_10) hx hb hml hown hts (cwV 0 hts gX5_lots_X5_forgets rfl rfl rfl hd_X5_forgets ⟨Nat.le_of_ble_eq_true rfl, Nat.le_of_ble_eq_true rfl⟩) (va_recv hK hP (ci := 5) (q0 := 0) rfl cM_at0) (Ln.id rfl) hA hK hP hD hS rfl hl.1 rfl rfl (Nat.le_of_ble_eq_true rfl) dX5_lots_160 (fun H locs hP hD hS => ?_)
          replace hP : va_P D vwCl (cM cI A a_10) H := hP
          replace hD : va_D AA (cM cI A a_10) := hD
          obtain ⟨v_11, ev_11, hf⟩ := nm_e hf
          refine lv_iinc (v := v_11) (lv' := [(8, .int v_11), (7, .int v_9), (0, .ref (A 0)), (1, .int p1), (3, .int p3), (5, .int q80.1), (6, .int q80.2.1), (9, .int q80.2.2.1)]) hx hb dX5_lots_163 hl (k := 6) rfl (by rw [ev_11]; rfl) (by decide) rfl (fun ls hl => ?_)
          refine lv_goto (tgt := 67) hx hb dX5_lots_166 (by decide) ?_
          exact ih67 (q80.1, q80.2.1, v_9, v_11, a_10) hf H locs ls hP hD hS (lv_sub hl [2, 3, 4, 5, 6, 1, 0] rfl)
        · replace hf := if_f c_7 hf
          refine lv_iload hx hb dX5_lots_87 (lv_at hl 3 rfl) ?_
          refine lv_ldcw (v := 1664525) hx hb hown kc283 dX5_lots_89 ?_
          refine lv_imul hx hb dX5_lots_92 ?_
          refine lv_ldcw (v := 1013904223) hx hb hown kc284 dX5_lots_93 ?_
          refine lv_iadd hx hb dX5_lots_96 ?_
          refine lv_topi (fun v_12 ev_12 => ?_)
          replace hf := nm_at ev_12 hf
          refine lv_istore (lv' := [(5, .int v_12), (0, .ref (A 0)), (1, .int p1), (3, .int p3), (6, .int q80.2.1), (7, .int q67.2.2.1), (8, .int q67.2.2.2.1), (9, .int q80.2.2.1)]) hx hb dX5_lots_97 hl (by decide) rfl (fun ls hl => ?_)
          refine lv_iload hx hb dX5_lots_99 (lv_at hl 0 rfl) ?_
          refine lv_ldcw (v := 2147483647) hx hb hown kc285 dX5_lots_101 ?_
          refine lv_iand hx hb dX5_lots_104 ?_
          refine lv_sipush (v := 256) hx hb dX5_lots_105 (by decide +kernel) ?_
          refine lv_idiv hx hb dX5_lots_108 (by decide) ?_
          refine lv_aload_n hx hb dX5_lots_109 rfl (lv_at hl 1 rfl) ?_
          refine va_get (D := D) (ci := 5) (v := .int (q80.2.2.2 16 1)) (C := RX5) (T := TX5) (N := 27) hx hb hts hw5 hown hK hP 0 cM_at0 rfl 9 (by decide) k65 (fun _ h9 => h9) rfl dX5_lots_110 ?_
          obtain ⟨c_14, hf⟩ := gd_e hf
          refine lv_irem hx hb dX5_lots_113 c_14 ?_
          refine lv_topi (fun v_15 ev_15 => ?_)
          replace hf := nm_at ev_15 hf
          refine lv_istore (lv' := [(10, .int v_15), (5, .int v_12), (0, .ref (A 0)), (1, .int p1), (3, .int p3), (6, .int q80.2.1), (7, .int q67.2.2.1), (8, .int q67.2.2.2.1), (9, .int q80.2.2.1)]) hx hb dX5_lots_114 hl (by decide) rfl (fun ls hl => ?_)
          refine lv_iload hx hb dX5_lots_116 (lv_at hl 5 rfl) ?_
          refine lv_aload_n hx hb dX5_lots_118 rfl (lv_at hl 2 rfl) ?_
          refine lv_iload hx hb dX5_lots_119 (lv_at hl 0 rfl) ?_
          obtain ⟨a_16, ha_16, hf⟩ := bd_e hf
          refine Ct.callV (As := [.int v_15]) (rest := [.int q80.2.1]) (st1 := [.int a_16, .int q80.2.1]) (c_X5_canTell l D cI A q80.2.2.2 v_15 a_16 ha_16) hx hb hml hown hts (cwV 1 hts gX5_lots_X5_canTell rfl rfl rfl hd_X5_canTell ⟨Nat.le_of_ble_eq_true rfl, Nat.le_of_ble_eq_true rfl⟩) (va_recv hK hP (ci := 5) (q0 := 0) rfl cM_at0) (Ln.id rfl) hA hK hP hD hS rfl hl.1 rfl rfl (Nat.le_of_ble_eq_true rfl) dX5_lots_121 (fun H locs hP hD hS => ?_)
          refine lv_if_eq (tgt := 136) hx hb dX5_lots_124 (by decide) (fun c_17 => ?_) (fun c_17 => ?_)
          · replace hf := if_t c_17 hf
            refine lv_iconst (v := 0) hx hb dX5_lots_136 (by decide) ?_
            refine lv_iadd hx hb dX5_lots_137 ?_
            refine lv_topi (fun v_18 ev_18 => ?_)
            replace hf := nm_at ev_18 hf
            refine lv_istore (lv' := [(6, .int v_18), (10, .int v_15), (5, .int v_12), (0, .ref (A 0)), (1, .int p1), (3, .int p3), (7, .int q67.2.2.1), (8, .int q67.2.2.2.1), (9, .int q80.2.2.1)]) hx hb dX5_lots_138 hl (by decide) rfl (fun ls hl => ?_)
            refine lv_aload_n hx hb dX5_lots_140 rfl (lv_at hl 3 rfl) ?_
            obtain ⟨a_19, ha_19, hf⟩ := bd_e hf
            refine Ct.callV (As := []) (rest := []) (st1 := []) (c_X5_goesTide l D cI A q80.2.2.2 a_19 ha_19) hx hb hml hown hts (cwV 0 hts gX5_lots_X5_goesTide rfl rfl rfl hd_X5_goesTide ⟨Nat.le_of_ble_eq_true rfl, Nat.le_of_ble_eq_true rfl⟩) (va_recv hK hP (ci := 5) (q0 := 0) rfl cM_at0) (Ln.id rfl) hA hK hP hD hS rfl hl.1 rfl rfl (Nat.le_of_ble_eq_true rfl) dX5_lots_141 (fun H locs hP hD hS => ?_)
            replace hP : va_P D vwCl (cM cI A a_19) H := hP
            replace hD : va_D AA (cM cI A a_19) := hD
            obtain ⟨v_20, ev_20, hf⟩ := nm_e hf
            refine lv_iinc (v := v_20) (lv' := [(9, .int v_20), (6, .int v_18), (10, .int v_15), (5, .int v_12), (0, .ref (A 0)), (1, .int p1), (3, .int p3), (7, .int q67.2.2.1), (8, .int q67.2.2.2.1)]) hx hb dX5_lots_144 hl (k := 8) rfl (by rw [ev_20]; rfl) (by decide) rfl (fun ls hl => ?_)
            refine lv_goto (tgt := 80) hx hb dX5_lots_147 (by decide) ?_
            exact ih80 (v_12, v_18, v_20, a_19) hf H locs ls hP hD hS (lv_sub hl [4, 5, 6, 3, 1, 7, 8, 0] rfl)
          · replace hf := if_f c_17 hf
            refine lv_aload_n hx hb dX5_lots_127 rfl (lv_at hl 2 rfl) ?_
            refine lv_iload hx hb dX5_lots_128 (lv_at hl 0 rfl) ?_
            obtain ⟨a_21, ha_21, hf⟩ := bd_e hf
            refine Ct.callV (As := [.int v_15]) (rest := [.int q80.2.1]) (st1 := [.int a_21.1, .int q80.2.1]) (c_X5_tellsOne l D cI A q80.2.2.2 v_15 a_21 ha_21) hx hb hml hown hts (cwV 1 hts gX5_lots_X5_tellsOne rfl rfl rfl hd_X5_tellsOne ⟨Nat.le_of_ble_eq_true rfl, Nat.le_of_ble_eq_true rfl⟩) (va_recv hK hP (ci := 5) (q0 := 0) rfl cM_at0) (Ln.id rfl) hA hK hP hD hS rfl hl.1 rfl rfl (Nat.le_of_ble_eq_true rfl) dX5_lots_130 (fun H locs hP hD hS => ?_)
            replace hP : va_P D vwCl (cM cI A a_21.2) H := hP
            replace hD : va_D AA (cM cI A a_21.2) := hD
            refine lv_goto (tgt := 137) hx hb dX5_lots_133 (by decide) ?_
            refine lv_iadd hx hb dX5_lots_137 ?_
            refine lv_topi (fun v_22 ev_22 => ?_)
            replace hf := nm_at ev_22 hf
            refine lv_istore (lv' := [(6, .int v_22), (10, .int v_15), (5, .int v_12), (0, .ref (A 0)), (1, .int p1), (3, .int p3), (7, .int q67.2.2.1), (8, .int q67.2.2.2.1), (9, .int q80.2.2.1)]) hx hb dX5_lots_138 hl (by decide) rfl (fun ls hl => ?_)
            refine lv_aload_n hx hb dX5_lots_140 rfl (lv_at hl 3 rfl) ?_
            obtain ⟨a_23, ha_23, hf⟩ := bd_e hf
            refine Ct.callV (As := []) (rest := []) (st1 := []) (c_X5_goesTide l D cI A a_21.2 a_23 ha_23) hx hb hml hown hts (cwV 0 hts gX5_lots_X5_goesTide rfl rfl rfl hd_X5_goesTide ⟨Nat.le_of_ble_eq_true rfl, Nat.le_of_ble_eq_true rfl⟩) (va_recv hK hP (ci := 5) (q0 := 0) rfl cM_at0) (Ln.id rfl) hA hK hP hD hS rfl hl.1 rfl rfl (Nat.le_of_ble_eq_true rfl) dX5_lots_141 (fun H locs hP hD hS => ?_)
            replace hP : va_P D vwCl (cM cI A a_23) H := hP
            replace hD : va_D AA (cM cI A a_23) := hD
            obtain ⟨v_24, ev_24, hf⟩ := nm_e hf
            refine lv_iinc (v := v_24) (lv' := [(9, .int v_24), (6, .int v_22), (10, .int v_15), (5, .int v_12), (0, .ref (A 0)), (1, .int p1), (3, .int p3), (7, .int q67.2.2.1), (8, .int q67.2.2.2.1)]) hx hb dX5_lots_144 hl (k := 8) rfl (by rw [ev_24]; rfl) (by decide) rfl (fun ls hl => ?_)
            refine lv_goto (tgt := 80) hx hb dX5_lots_147 (by decide) ?_
            exact ih80 (v_12, v_22, v_24, a_23) hf H locs ls hP hD hS (lv_sub hl [4, 5, 6, 3, 1, 7, 8, 0] rfl)
    · replace hf := if_f c_3 hf
      refine lv_aload_n hx hb dX5_lots_48 rfl (lv_at hl 1 rfl) ?_
      refine lv_iload hx hb dX5_lots_49 (lv_at hl 0 rfl) ?_
      obtain ⟨a_25, ha_25, hf⟩ := bd_e hf
      refine Ct.callV (As := [.int a_1]) (rest := []) (st1 := [.int a_25.1]) (c_X5_no l D cI A M a_1 a_25 ha_25) hx hb hml hown hts (cwV 1 hts gX5_lots_X5_no rfl rfl rfl hd_X5_no ⟨Nat.le_of_ble_eq_true rfl, Nat.le_of_ble_eq_true rfl⟩) (va_recv hK hP (ci := 5) (q0 := 0) rfl cM_at0) (Ln.id rfl) hA hK hP hD hS rfl hl.1 rfl rfl (Nat.le_of_ble_eq_true rfl) dX5_lots_51 (fun H locs hP hD hS => ?_)
      replace hP : va_P D vwCl (cM cI A a_25.2) H := hP
      replace hD : va_D AA (cM cI A a_25.2) := hD
      exact hend (a_25.1, a_25.2) H locs _ _ hf hP hS dX5_lots_54
  · replace hf := if_t c_2 hf
    refine lv_iload_n hx hb dX5_lots_14 rfl (lv_at hl 4 rfl) ?_
    refine lv_iconst (v := 0) hx hb dX5_lots_15 (by decide) ?_
    refine lv_iconst (v := 1) hx hb dX5_lots_16 (by decide) ?_
    obtain ⟨a_26, ha_26, hf⟩ := bd_e hf
    refine Ct.callS (As := [.int p3, .int (0 : Int32), .int (1 : Int32)]) (rest := []) (st1 := [.int a_26]) (c_X5_isIn l D cI  p3 (0 : Int32) (1 : Int32) a_26 ha_26) hx hb hml hown hts (va_cwS 3 hts gX5_lots_X5_isIn rfl rfl rfl hd_X5_isIn ⟨Nat.le_of_ble_eq_true rfl, Nat.le_of_ble_eq_true rfl⟩) Ln.nil hA hK hP hD hS rfl hl.1 rfl rfl (Nat.le_of_ble_eq_true rfl) dX5_lots_17 (fun H locs hP hD hS => ?_)
    refine lv_if_ne (tgt := 28) hx hb dX5_lots_20 (by decide) (fun c_27 => ?_) (fun c_27 => ?_)
    · replace hf := if_f c_27 hf
      refine lv_aload_n hx hb dX5_lots_28 rfl (lv_at hl 1 rfl) ?_
      refine va_get (D := D) (ci := 5) (v := .int (M 16 1)) (C := RX5) (T := TX5) (N := 27) hx hb hts hw5 hown hK hP 0 cM_at0 rfl 9 (by decide) k65 (fun _ h9 => h9) rfl dX5_lots_29 ?_
      refine lv_if_ne (tgt := 40) hx hb dX5_lots_32 (by decide) (fun c_28 => ?_) (fun c_28 => ?_)
      · replace hf := if_f c_28 hf
        refine lv_iconst (v := 0) hx hb dX5_lots_40 (by decide) ?_
        refine lv_istore (lv' := [(4, .int (0 : Int32)), (0, .ref (A 0)), (1, .int p1), (2, .int p2), (3, .int p3)]) hx hb dX5_lots_41 hl (by decide) rfl (fun ls hl => ?_)
        refine lv_iload hx hb dX5_lots_43 (lv_at hl 0 rfl) ?_
        refine lv_if_eq (tgt := 55) hx hb dX5_lots_45 (by decide) (fun _ => ?_) (fun c0 => absurd c0 (by decide))
        refine lv_iload_n hx hb dX5_lots_55 rfl (lv_at hl 3 rfl) ?_
        refine lv_istore (lv' := [(5, .int p2), (4, .int (0 : Int32)), (0, .ref (A 0)), (1, .int p1), (2, .int p2), (3, .int p3)]) hx hb dX5_lots_56 hl (by decide) rfl (fun ls hl => ?_)
        refine lv_iconst (v := 0) hx hb dX5_lots_58 (by decide) ?_
        refine lv_istore (lv' := [(6, .int (0 : Int32)), (5, .int p2), (4, .int (0 : Int32)), (0, .ref (A 0)), (1, .int p1), (2, .int p2), (3, .int p3)]) hx hb dX5_lots_59 hl (by decide) rfl (fun ls hl => ?_)
        refine lv_iconst (v := 0) hx hb dX5_lots_61 (by decide) ?_
        refine lv_istore (lv' := [(7, .int (0 : Int32)), (6, .int (0 : Int32)), (5, .int p2), (4, .int (0 : Int32)), (0, .ref (A 0)), (1, .int p1), (2, .int p2), (3, .int p3)]) hx hb dX5_lots_62 hl (by decide) rfl (fun ls hl => ?_)
        refine lv_iconst (v := 0) hx hb dX5_lots_64 (by decide) ?_
        refine lv_istore (lv' := [(8, .int (0 : Int32)), (7, .int (0 : Int32)), (6, .int (0 : Int32)), (5, .int p2), (4, .int (0 : Int32)), (0, .ref (A 0)), (1, .int p1), (2, .int p2), (3, .int p3)]) hx hb dX5_lots_65 hl (by decide) rfl (fun ls hl => ?_)
        refine lp_ind (P := fun (q67 : Int32 × Int32 × Int32 × Int32 × St) => ∀ (H : Heap) (locs : List Loc) (ls : Array Slot), va_P D vwCl (cM cI A q67.2.2.2.2) H → va_D AA (cM cI A q67.2.2.2.2) → va_S AA s.heap H locs → lv_has ls 11 [(0, .ref (A 0)), (1, .int p1), (3, .int p3), (5, .int q67.1), (6, .int q67.2.1), (7, .int q67.2.2.1), (8, .int q67.2.2.2.1)] → W p l e rm_X5_lots s m args below meth c H locs 0 0 Q (F0 m 67 ls [])) hf ?_ H locs ls hP hD hS (lv_sub hl [5, 6, 8, 3, 2, 1, 0] rfl)
        clear hf hP hD hS hl
        intro nx67 ih67 q67 hf H locs ls hP hD hS hl
        refine lv_iload hx hb dX5_lots_67 (lv_at hl 6 rfl) ?_
        refine lv_iload_n hx hb dX5_lots_69 rfl (lv_at hl 1 rfl) ?_
        refine lv_icmp_ge (tgt := 169) hx hb dX5_lots_70 (by decide) (fun c_29 => ?_) (fun c_29 => ?_)
        · replace hf := if_t c_29 hf
          refine lv_iload_n hx hb dX5_lots_169 rfl (lv_at hl 2 rfl) ?_
          refine lv_if_ne (tgt := 178) hx hb dX5_lots_170 (by decide) (fun c_30 => ?_) (fun c_30 => ?_)
          · replace hf := if_f c_30 hf
            refine lv_iload hx hb dX5_lots_178 (lv_at hl 5 rfl) ?_
            exact hend (q67.2.2.1, q67.2.2.2.2) H locs _ _ hf hP hS dX5_lots_180
          · replace hf := if_t c_30 hf
            refine lv_iload hx hb dX5_lots_173 (lv_at hl 4 rfl) ?_
            refine lv_goto (tgt := 180) hx hb dX5_lots_175 (by decide) ?_
            exact hend (q67.2.1, q67.2.2.2.2) H locs _ _ hf hP hS dX5_lots_180
        · replace hf := if_f c_29 hf
          refine lv_aload_n hx hb dX5_lots_73 rfl (lv_at hl 0 rfl) ?_
          obtain ⟨a_31, ha_31, hf⟩ := bd_e hf
          refine Ct.callV (As := []) (rest := []) (st1 := []) (c_X5_thinks l D cI A q67.2.2.2.2 a_31 ha_31) hx hb hml hown hts (cwV 0 hts gX5_lots_X5_thinks rfl rfl rfl hd_X5_thinks ⟨Nat.le_of_ble_eq_true rfl, Nat.le_of_ble_eq_true rfl⟩) (va_recv hK hP (ci := 5) (q0 := 0) rfl cM_at0) (Ln.id rfl) hA hK hP hD hS rfl hl.1 rfl rfl (Nat.le_of_ble_eq_true rfl) dX5_lots_74 (fun H locs hP hD hS => ?_)
          replace hP : va_P D vwCl (cM cI A a_31) H := hP
          replace hD : va_D AA (cM cI A a_31) := hD
          refine lv_iconst (v := 0) hx hb dX5_lots_77 (by decide) ?_
          refine lv_istore (lv' := [(9, .int (0 : Int32)), (0, .ref (A 0)), (1, .int p1), (3, .int p3), (5, .int q67.1), (6, .int q67.2.1), (7, .int q67.2.2.1), (8, .int q67.2.2.2.1)]) hx hb dX5_lots_78 hl (by decide) rfl (fun ls hl => ?_)
          refine lp_ind (P := fun (q80 : Int32 × Int32 × Int32 × St) => ∀ (H : Heap) (locs : List Loc) (ls : Array Slot), va_P D vwCl (cM cI A q80.2.2.2) H → va_D AA (cM cI A q80.2.2.2) → va_S AA s.heap H locs → lv_has ls 11 [(0, .ref (A 0)), (1, .int p1), (3, .int p3), (5, .int q80.1), (6, .int q80.2.1), (7, .int q67.2.2.1), (8, .int q67.2.2.2.1), (9, .int q80.2.2.1)] → W p l e rm_X5_lots s m args below meth c H locs 0 0 Q (F0 m 80 ls [])) hf ?_ H locs ls hP hD hS (lv_sub hl [1, 2, 3, 4, 5, 6, 7, 0] rfl)
          clear hf hP hD hS hl
          intro nx80 ih80 q80 hf H locs ls hP hD hS hl
          refine lv_iload hx hb dX5_lots_80 (lv_at hl 7 rfl) ?_
          refine lv_bipush (v := 12) hx hb dX5_lots_82 (by decide +kernel) ?_
          refine lv_icmp_ge (tgt := 150) hx hb dX5_lots_84 (by decide) (fun c_32 => ?_) (fun c_32 => ?_)
          · replace hf := if_t c_32 hf
            refine lv_iload hx hb dX5_lots_150 (lv_at hl 5 rfl) ?_
            refine lv_aload_n hx hb dX5_lots_152 rfl (lv_at hl 0 rfl) ?_
            obtain ⟨a_33, ha_33, hf⟩ := bd_e hf
            refine Ct.callV (As := []) (rest := [.int q67.2.2.1]) (st1 := [.int a_33, .int q67.2.2.1]) (c_X5_allSins l D cI A q80.2.2.2 a_33 ha_33) hx hb hml hown hts (cwV 0 hts gX5_lots_X5_allSins rfl rfl rfl hd_X5_allSins ⟨Nat.le_of_ble_eq_true rfl, Nat.le_of_ble_eq_true rfl⟩) (va_recv hK hP (ci := 5) (q0 := 0) rfl cM_at0) (Ln.id rfl) hA hK hP hD hS rfl hl.1 rfl rfl (Nat.le_of_ble_eq_true rfl) dX5_lots_153 (fun H locs hP hD hS => ?_)
            refine lv_iadd hx hb dX5_lots_156 ?_
            refine lv_topi (fun v_34 ev_34 => ?_)
            replace hf := nm_at ev_34 hf
            refine lv_istore (lv' := [(7, .int v_34), (0, .ref (A 0)), (1, .int p1), (3, .int p3), (5, .int q80.1), (6, .int q80.2.1), (8, .int q67.2.2.2.1), (9, .int q80.2.2.1)]) hx hb dX5_lots_157 hl (by decide) rfl (fun ls hl => ?_)
            refine lv_aload_n hx hb dX5_lots_159 rfl (lv_at hl 1 rfl) ?_
            obtain ⟨a_35, ha_35, hf⟩ := bd_e hf
            refine Ct.callV (As := []) (rest := []) (st1 := []) (c_X5_forgets l D cI A q80.2.2.2 a_35 ha_35) hx hb hml hown hts (cwV 0 hts gX5_lots_X5_forgets rfl rfl rfl hd_X5_forgets ⟨Nat.le_of_ble_eq_true rfl, Nat.le_of_ble_eq_true rfl⟩) (va_recv hK hP (ci := 5) (q0 := 0) rfl cM_at0) (Ln.id rfl) hA hK hP hD hS rfl hl.1 rfl rfl (Nat.le_of_ble_eq_true rfl) dX5_lots_160 (fun H locs hP hD hS => ?_)
            replace hP : va_P D vwCl (cM cI A a_35) H := hP
            replace hD : va_D AA (cM cI A a_35) := hD
            obtain ⟨v_36, ev_36, hf⟩ := nm_e hf
            refine lv_iinc (v := v_36) (lv' := [(8, .int v_36), (7, .int v_34), (0, .ref (A 0)), (1, .int p1), (3, .int p3), (5, .int q80.1), (6, .int q80.2.1), (9, .int q80.2.2.1)]) hx hb dX5_lots_163 hl (k := 6) rfl (by rw [ev_36]; rfl) (by decide) rfl (fun ls hl => ?_)
            refine lv_goto (tgt := 67) hx hb dX5_lots_166 (by decide) ?_
            exact ih67 (q80.1, q80.2.1, v_34, v_36, a_35) hf H locs ls hP hD hS (lv_sub hl [2, 3, 4, 5, 6, 1, 0] rfl)
          · replace hf := if_f c_32 hf
            refine lv_iload hx hb dX5_lots_87 (lv_at hl 3 rfl) ?_
            refine lv_ldcw (v := 1664525) hx hb hown kc283 dX5_lots_89 ?_
            refine lv_imul hx hb dX5_lots_92 ?_
            refine lv_ldcw (v := 1013904223) hx hb hown kc284 dX5_lots_93 ?_
            refine lv_iadd hx hb dX5_lots_96 ?_
            refine lv_topi (fun v_37 ev_37 => ?_)
            replace hf := nm_at ev_37 hf
            refine lv_istore (lv' := [(5, .int v_37), (0, .ref (A 0)), (1, .int p1), (3, .int p3), (6, .int q80.2.1), (7, .int q67.2.2.1), (8, .int q67.2.2.2.1), (9, .int q80.2.2.1)]) hx hb dX5_lots_97 hl (by decide) rfl (fun ls hl => ?_)
            refine lv_iload hx hb dX5_lots_99 (lv_at hl 0 rfl) ?_
            refine lv_ldcw (v := 2147483647) hx hb hown kc285 dX5_lots_101 ?_
            refine lv_iand hx hb dX5_lots_104 ?_
            refine lv_sipush (v := 256) hx hb dX5_lots_105 (by decide +kernel) ?_
            refine lv_idiv hx hb dX5_lots_108 (by decide) ?_
            refine lv_aload_n hx hb dX5_lots_109 rfl (lv_at hl 1 rfl) ?_
            refine va_get (D := D) (ci := 5) (v := .int (q80.2.2.2 16 1)) (C := RX5) (T := TX5) (N := 27) hx hb hts hw5 hown hK hP 0 cM_at0 rfl 9 (by decide) k65 (fun _ h9 => h9) rfl dX5_lots_110 ?_
            obtain ⟨c_39, hf⟩ := gd_e hf
            refine lv_irem hx hb dX5_lots_113 c_39 ?_
            refine lv_topi (fun v_40 ev_40 => ?_)
            replace hf := nm_at ev_40 hf
            refine lv_istore (lv' := [(10, .int v_40), (5, .int v_37), (0, .ref (A 0)), (1, .int p1), (3, .int p3), (6, .int q80.2.1), (7, .int q67.2.2.1), (8, .int q67.2.2.2.1), (9, .int q80.2.2.1)]) hx hb dX5_lots_114 hl (by decide) rfl (fun ls hl => ?_)
            refine lv_iload hx hb dX5_lots_116 (lv_at hl 5 rfl) ?_
            refine lv_aload_n hx hb dX5_lots_118 rfl (lv_at hl 2 rfl) ?_
            refine lv_iload hx hb dX5_lots_119 (lv_at hl 0 rfl) ?_
            obtain ⟨a_41, ha_41, hf⟩ := bd_e hf
            refine Ct.callV (As := [.int v_40]) (rest := [.int q80.2.1]) (st1 := [.int a_41, .int q80.2.1]) (c_X5_canTell l D cI A q80.2.2.2 v_40 a_41 ha_41) hx hb hml hown hts (cwV 1 hts gX5_lots_X5_canTell rfl rfl rfl hd_X5_canTell ⟨Nat.le_of_ble_eq_true rfl, Nat.le_of_ble_eq_true rfl⟩) (va_recv hK hP (ci := 5) (q0 := 0) rfl cM_at0) (Ln.id rfl) hA hK hP hD hS rfl hl.1 rfl rfl (Nat.le_of_ble_eq_true rfl) dX5_lots_121 (fun H locs hP hD hS => ?_)
            refine lv_if_eq (tgt := 136) hx hb dX5_lots_124 (by decide) (fun c_42 => ?_) (fun c_42 => ?_)
            · replace hf := if_t c_42 hf
              refine lv_iconst (v := 0) hx hb dX5_lots_136 (by decide) ?_
              refine lv_iadd hx hb dX5_lots_137 ?_
              refine lv_topi (fun v_43 ev_43 => ?_)
              replace hf := nm_at ev_43 hf
              refine lv_istore (lv' := [(6, .int v_43), (10, .int v_40), (5, .int v_37), (0, .ref (A 0)), (1, .int p1), (3, .int p3), (7, .int q67.2.2.1), (8, .int q67.2.2.2.1), (9, .int q80.2.2.1)]) hx hb dX5_lots_138 hl (by decide) rfl (fun ls hl => ?_)
              refine lv_aload_n hx hb dX5_lots_140 rfl (lv_at hl 3 rfl) ?_
              obtain ⟨a_44, ha_44, hf⟩ := bd_e hf
              refine Ct.callV (As := []) (rest := []) (st1 := []) (c_X5_goesTide l D cI A q80.2.2.2 a_44 ha_44) hx hb hml hown hts (cwV 0 hts gX5_lots_X5_goesTide rfl rfl rfl hd_X5_goesTide ⟨Nat.le_of_ble_eq_true rfl, Nat.le_of_ble_eq_true rfl⟩) (va_recv hK hP (ci := 5) (q0 := 0) rfl cM_at0) (Ln.id rfl) hA hK hP hD hS rfl hl.1 rfl rfl (Nat.le_of_ble_eq_true rfl) dX5_lots_141 (fun H locs hP hD hS => ?_)
              replace hP : va_P D vwCl (cM cI A a_44) H := hP
              replace hD : va_D AA (cM cI A a_44) := hD
              obtain ⟨v_45, ev_45, hf⟩ := nm_e hf
              refine lv_iinc (v := v_45) (lv' := [(9, .int v_45), (6, .int v_43), (10, .int v_40), (5, .int v_37), (0, .ref (A 0)), (1, .int p1), (3, .int p3), (7, .int q67.2.2.1), (8, .int q67.2.2.2.1)]) hx hb dX5_lots_144 hl (k := 8) rfl (by rw [ev_45]; rfl) (by decide) rfl (fun ls hl => ?_)
              refine lv_goto (tgt := 80) hx hb dX5_lots_147 (by decide) ?_
              exact ih80 (v_37, v_43, v_45, a_44) hf H locs ls hP hD hS (lv_sub hl [4, 5, 6, 3, 1, 7, 8, 0] rfl)
            · replace hf := if_f c_42 hf
              refine lv_aload_n hx hb dX5_lots_127 rfl (lv_at hl 2 rfl) ?_
              refine lv_iload hx hb dX5_lots_128 (lv_at hl 0 rfl) ?_
              obtain ⟨a_46, ha_46, hf⟩ := bd_e hf
              refine Ct.callV (As := [.int v_40]) (rest := [.int q80.2.1]) (st1 := [.int a_46.1, .int q80.2.1]) (c_X5_tellsOne l D cI A q80.2.2.2 v_40 a_46 ha_46) hx hb hml hown hts (cwV 1 hts gX5_lots_X5_tellsOne rfl rfl rfl hd_X5_tellsOne ⟨Nat.le_of_ble_eq_true rfl, Nat.le_of_ble_eq_true rfl⟩) (va_recv hK hP (ci := 5) (q0 := 0) rfl cM_at0) (Ln.id rfl) hA hK hP hD hS rfl hl.1 rfl rfl (Nat.le_of_ble_eq_true rfl) dX5_lots_130 (fun H locs hP hD hS => ?_)
              replace hP : va_P D vwCl (cM cI A a_46.2) H := hP
              replace hD : va_D AA (cM cI A a_46.2) := hD
              refine lv_goto (tgt := 137) hx hb dX5_lots_133 (by decide) ?_
              refine lv_iadd hx hb dX5_lots_137 ?_
              refine lv_topi (fun v_47 ev_47 => ?_)
              replace hf := nm_at ev_47 hf
              refine lv_istore (lv' := [(6, .int v_47), (10, .int v_40), (5, .int v_37), (0, .ref (A 0)), (1, .int p1), (3, .int p3), (7, .int q67.2.2.1), (8, .int q67.2.2.2.1), (9, .int q80.2.2.1)]) hx hb dX5_lots_138 hl (by decide) rfl (fun ls hl => ?_)
              refine lv_aload_n hx hb dX5_lots_140 rfl (lv_at hl 3 rfl) ?_
              obtain ⟨a_48, ha_48, hf⟩ := bd_e hf
              refine Ct.callV (As := []) (rest := []) (st1 := []) (c_X5_goesTide l D cI A a_46.2 a_48 ha_48) hx hb hml hown hts (cwV 0 hts gX5_lots_X5_goesTide rfl rfl rfl hd_X5_goesTide ⟨Nat.le_of_ble_eq_true rfl, Nat.le_of_ble_eq_true rfl⟩) (va_recv hK hP (ci := 5) (q0 := 0) rfl cM_at0) (Ln.id rfl) hA hK hP hD hS rfl hl.1 rfl rfl (Nat.le_of_ble_eq_true rfl) dX5_lots_141 (fun H locs hP hD hS => ?_)
              replace hP : va_P D vwCl (cM cI A a_48) H := hP
              replace hD : va_D AA (cM cI A a_48) := hD
              obtain ⟨v_49, ev_49, hf⟩ := nm_e hf
              refine lv_iinc (v := v_49) (lv' := [(9, .int v_49), (6, .int v_47), (10, .int v_40), (5, .int v_37), (0, .ref (A 0)), (1, .int p1), (3, .int p3), (7, .int q67.2.2.1), (8, .int q67.2.2.2.1)]) hx hb dX5_lots_144 hl (k := 8) rfl (by rw [ev_49]; rfl) (by decide) rfl (fun ls hl => ?_)
              refine lv_goto (tgt := 80) hx hb dX5_lots_147 (by decide) ?_
              exact ih80 (v_37, v_47, v_49, a_48) hf H locs ls hP hD hS (lv_sub hl [4, 5, 6, 3, 1, 7, 8, 0] rfl)
      · replace hf := if_t c_28 hf
        refine lv_bipush (v := -3) hx hb dX5_lots_35 (by decide +kernel) ?_
        refine lv_goto (tgt := 41) hx hb dX5_lots_37 (by decide) ?_
        refine lv_istore (lv' := [(4, .int (-3 : Int32)), (0, .ref (A 0)), (1, .int p1), (2, .int p2), (3, .int p3)]) hx hb dX5_lots_41 hl (by decide) rfl (fun ls hl => ?_)
        refine lv_iload hx hb dX5_lots_43 (lv_at hl 0 rfl) ?_
        refine lv_if_eq (tgt := 55) hx hb dX5_lots_45 (by decide) (fun c0 => absurd c0 (by decide)) (fun _ => ?_)
        refine lv_aload_n hx hb dX5_lots_48 rfl (lv_at hl 1 rfl) ?_
        refine lv_iload hx hb dX5_lots_49 (lv_at hl 0 rfl) ?_
        obtain ⟨a_50, ha_50, hf⟩ := bd_e hf
        refine Ct.callV (As := [.int (-3 : Int32)]) (rest := []) (st1 := [.int a_50.1]) (c_X5_no l D cI A M (-3 : Int32) a_50 ha_50) hx hb hml hown hts (cwV 1 hts gX5_lots_X5_no rfl rfl rfl hd_X5_no ⟨Nat.le_of_ble_eq_true rfl, Nat.le_of_ble_eq_true rfl⟩) (va_recv hK hP (ci := 5) (q0 := 0) rfl cM_at0) (Ln.id rfl) hA hK hP hD hS rfl hl.1 rfl rfl (Nat.le_of_ble_eq_true rfl) dX5_lots_51 (fun H locs hP hD hS => ?_)
        replace hP : va_P D vwCl (cM cI A a_50.2) H := hP
        replace hD : va_D AA (cM cI A a_50.2) := hD
        exact hend (a_50.1, a_50.2) H locs _ _ hf hP hS dX5_lots_54
    · replace hf := if_t c_27 hf
      refine lv_bipush (v := -2) hx hb dX5_lots_23 (by decide +kernel) ?_
      refine lv_goto (tgt := 41) hx hb dX5_lots_25 (by decide) ?_
      refine lv_istore (lv' := [(4, .int (-2 : Int32)), (0, .ref (A 0)), (1, .int p1), (2, .int p2), (3, .int p3)]) hx hb dX5_lots_41 hl (by decide) rfl (fun ls hl => ?_)
      refine lv_iload hx hb dX5_lots_43 (lv_at hl 0 rfl) ?_
      refine lv_if_eq (tgt := 55) hx hb dX5_lots_45 (by decide) (fun c0 => absurd c0 (by decide)) (fun _ => ?_)
      refine lv_aload_n hx hb dX5_lots_48 rfl (lv_at hl 1 rfl) ?_
      refine lv_iload hx hb dX5_lots_49 (lv_at hl 0 rfl) ?_
      obtain ⟨a_51, ha_51, hf⟩ := bd_e hf
      refine Ct.callV (As := [.int (-2 : Int32)]) (rest := []) (st1 := [.int a_51.1]) (c_X5_no l D cI A M (-2 : Int32) a_51 ha_51) hx hb hml hown hts (cwV 1 hts gX5_lots_X5_no rfl rfl rfl hd_X5_no ⟨Nat.le_of_ble_eq_true rfl, Nat.le_of_ble_eq_true rfl⟩) (va_recv hK hP (ci := 5) (q0 := 0) rfl cM_at0) (Ln.id rfl) hA hK hP hD hS rfl hl.1 rfl rfl (Nat.le_of_ble_eq_true rfl) dX5_lots_51 (fun H locs hP hD hS => ?_)
      replace hP : va_P D vwCl (cM cI A a_51.2) H := hP
      replace hD : va_D AA (cM cI A a_51.2) := hD
      exact hend (a_51.1, a_51.2) H locs _ _ hf hP hS dX5_lots_54

def f_X5_count (M : St) (p1 : Int32) : Option (Int32) := (bd (f_X5_isIn p1 (11 : Int32) (16 : Int32)) fun a_1 => (if a_1 = 0 then (if p1 = 0 then (some (M 16 0)) else (if p1 = 1 then (some (M 16 1)) else (if p1 = 2 then (some (M 16 3)) else (if p1 = 3 then (some (M 16 2)) else (if p1 = 4 then (bd (f_X5_outOnes M) fun a_8 => (some a_8)) else (if p1 = 5 then (bd (f_X5_allSins M) fun a_10 => (some a_10)) else (if p1 = 6 then (some (M 16 10)) else (if p1 = 7 then (some (M 16 4)) else (some (-9 : Int32)))))))))) else (gi (p1 - (10 : Int32)) 7 (some (M 0 ((p1 - (10 : Int32))).toNatClampNeg)))))
def rm_X5_count : Room := { frames := 1, cells := 0, slots := 0, locals := 22 }
theorem hd_X5_count : yX5_count.cls = RX5 ∧ yX5_count.cls ≠ "java/lang/invoke/MethodHandle" ∧ yX5_count.cls ≠ "java/lang/invoke/VarHandle" ∧ (parseMethodDescriptor yX5_count.desc).map (fun d => d.parameters.length) = some 1 := by decide +kernel
set_option maxRecDepth 100000 in
set_option maxHeartbeats 4000000 in
theorem c_X5_count (l : Launch) (D : va_G) (cI : ClassId) (A : Nat → Nat) (M : St) (p1 : Int32) (r : Int32) (hf : f_X5_count M p1 = some r) : Ct l yX5_count wsX5_count rm_X5_count D cI (cM cI A M) (cM cI A M) [.ref (A 0), .int p1] (some (.int r)) := by
  unfold f_X5_count at hf
  refine Ct.ofI (cc := cX5_count) (maxL := 2) (by decide +kernel) rfl (Nat.le_of_ble_eq_true rfl) ?_
  intro p e s m args below meth c AA Q H locs ls hx hb hml hown hts hA hK hP hD hS hl hend0
  have hend : ∀ (r1 : Int32) (H : Heap) (locs : List Loc) (pc : Nat) (ls : Array Slot), some r1 = some r → va_P D vwCl (cM cI A M) H → va_S AA s.heap H locs → decode cX5_count pc = .ok (.ireturn, 1) → W p l e rm_X5_count s m args below meth c H locs 0 0 Q (F0 m pc ls [.int r1]) := by
    intro r1 H locs pc ls e1 hP hS hd; cases e1; exact hend0 H locs pc ls hP hS hd
  clear hend0
  have hw5 : ∀ w ∈ wsX50, w ∈ wsX5_count := by decide +kernel
  have k7 := hts (.fieldLink RX5 7 "AnchorsForConfessionModel" "refused" "[I") (by decide +kernel)
  have k58 := hts (.fieldLink RX5 58 "AnchorsForConfessionModel" "ships" "I") (by decide +kernel)
  have k65 := hts (.fieldLink RX5 65 "AnchorsForConfessionModel" "men" "I") (by decide +kernel)
  have k72 := hts (.fieldLink RX5 72 "AnchorsForConfessionModel" "taped" "I") (by decide +kernel)
  have k110 := hts (.fieldLink RX5 110 "AnchorsForConfessionModel" "tide" "I") (by decide +kernel)
  have k160 := hts (.fieldLink RX5 160 "AnchorsForConfessionModel" "heard" "I") (by decide +kernel)
  have k273 := hts (.fieldLink RX5 273 "AnchorsForConfessionModel" "rowMany" "I") (by decide +kernel)
  replace hl : lv_has ls 2 [(0, .ref (A 0)), (1, .int p1)] := hl
  refine lv_iload_n hx hb dX5_count_0 rfl (lv_at hl 1 rfl) ?_
  refine lv_bipush (v := 11) hx hb dX5_count_1 (by decide +kernel) ?_
  refine lv_bipush (v := 16) hx hb dX5_count_3 (by decide +kernel) ?_
  obtain ⟨a_1, ha_1, hf⟩ := bd_e hf
  refine Ct.callS (As := [.int p1, .int (11 : Int32), .int (16 : Int32)]) (rest := []) (st1 := [.int a_1]) (c_X5_isIn l D cI  p1 (11 : Int32) (16 : Int32) a_1 ha_1) hx hb hml hown hts (va_cwS 3 hts gX5_count_X5_isIn rfl rfl rfl hd_X5_isIn ⟨Nat.le_of_ble_eq_true rfl, Nat.le_of_ble_eq_true rfl⟩) Ln.nil hA hK hP hD hS rfl hl.1 rfl rfl (Nat.le_of_ble_eq_true rfl) dX5_count_5 (fun H locs hP hD hS => ?_)
  refine lv_if_eq (tgt := 21) hx hb dX5_count_8 (by decide) (fun c_2 => ?_) (fun c_2 => ?_)
  · replace hf := if_t c_2 hf
    refine lv_iload_n hx hb dX5_count_21 rfl (lv_at hl 1 rfl) ?_
    by_cases c_3 : p1 = 0
    · replace hf := if_t c_3 hf
      refine lv_tableIn (off := 46) (tgt := 68) hx hb dX5_count_22 (by rw [c_3]; decide +kernel) (by rw [c_3]; decide +kernel) (by rw [c_3]; decide +kernel) (by decide) ?_
      refine lv_aload_n hx hb dX5_count_68 rfl (lv_at hl 0 rfl) ?_
      refine va_get (D := D) (ci := 5) (v := .int (M 16 0)) (C := RX5) (T := TX5) (N := 27) hx hb hts hw5 hown hK hP 0 cM_at0 rfl 8 (by decide) k58 (fun _ h9 => h9) rfl dX5_count_69 ?_
      exact hend (M 16 0) H locs _ _ hf hP hS dX5_count_72
    · replace hf := if_f c_3 hf
      by_cases c_4 : p1 = 1
      · replace hf := if_t c_4 hf
        refine lv_tableIn (off := 51) (tgt := 73) hx hb dX5_count_22 (by rw [c_4]; decide +kernel) (by rw [c_4]; decide +kernel) (by rw [c_4]; decide +kernel) (by decide) ?_
        refine lv_aload_n hx hb dX5_count_73 rfl (lv_at hl 0 rfl) ?_
        refine va_get (D := D) (ci := 5) (v := .int (M 16 1)) (C := RX5) (T := TX5) (N := 27) hx hb hts hw5 hown hK hP 0 cM_at0 rfl 9 (by decide) k65 (fun _ h9 => h9) rfl dX5_count_74 ?_
        exact hend (M 16 1) H locs _ _ hf hP hS dX5_count_77
      · replace hf := if_f c_4 hf
        by_cases c_5 : p1 = 2
        · replace hf := if_t c_5 hf
          refine lv_tableIn (off := 56) (tgt := 78) hx hb dX5_count_22 (by rw [c_5]; decide +kernel) (by rw [c_5]; decide +kernel) (by rw [c_5]; decide +kernel) (by decide) ?_
          refine lv_aload_n hx hb dX5_count_78 rfl (lv_at hl 0 rfl) ?_
          refine va_get (D := D) (ci := 5) (v := .int (M 16 3)) (C := RX5) (T := TX5) (N := 27) hx hb hts hw5 hown hK hP 0 cM_at0 rfl 11 (by decide) k110 (fun _ h9 => h9) rfl dX5_count_79 ?_
          exact hend (M 16 3) H locs _ _ hf hP hS dX5_count_82
        · replace hf := if_f c_5 hf
          by_cases c_6 : p1 = 3
          · replace hf := if_t c_6 hf
            refine lv_tableIn (off := 61) (tgt := 83) hx hb dX5_count_22 (by rw [c_6]; decide +kernel) (by rw [c_6]; decide +kernel) (by rw [c_6]; decide +kernel) (by decide) ?_
            refine lv_aload_n hx hb dX5_count_83 rfl (lv_at hl 0 rfl) ?_
            refine va_get (D := D) (ci := 5) (v := .int (M 16 2)) (C := RX5) (T := TX5) (N := 27) hx hb hts hw5 hown hK hP 0 cM_at0 rfl 10 (by decide) k160 (fun _ h9 => h9) rfl dX5_count_84 ?_
            exact hend (M 16 2) H locs _ _ hf hP hS dX5_count_87
          · replace hf := if_f c_6 hf
            by_cases c_7 : p1 = 4
            · replace hf := if_t c_7 hf
              refine lv_tableIn (off := 66) (tgt := 88) hx hb dX5_count_22 (by rw [c_7]; decide +kernel) (by rw [c_7]; decide +kernel) (by rw [c_7]; decide +kernel) (by decide) ?_
              refine lv_aload_n hx hb dX5_count_88 rfl (lv_at hl 0 rfl) ?_
              obtain ⟨a_8, ha_8, hf⟩ := bd_e hf
              refine Ct.callV (As := []) (rest := []) (st1 := [.int a_8]) (c_X5_outOnes l D cI A M a_8 ha_8) hx hb hml hown hts (cwV 0 hts gX5_count_X5_outOnes rfl rfl rfl hd_X5_outOnes ⟨Nat.le_of_ble_eq_true rfl, Nat.le_of_ble_eq_true rfl⟩) (va_recv hK hP (ci := 5) (q0 := 0) rfl cM_at0) (Ln.id rfl) hA hK hP hD hS rfl hl.1 rfl rfl (Nat.le_of_ble_eq_true rfl) dX5_count_89 (fun H locs hP hD hS => ?_)
              exact hend a_8 H locs _ _ hf hP hS dX5_count_92
            · replace hf := if_f c_7 hf
              by_cases c_9 : p1 = 5
              · replace hf := if_t c_9 hf
                refine lv_tableIn (off := 71) (tgt := 93) hx hb dX5_count_22 (by rw [c_9]; decide +kernel) (by rw [c_9]; decide +kernel) (by rw [c_9]; decide +kernel) (by decide) ?_
                refine lv_aload_n hx hb dX5_count_93 rfl (lv_at hl 0 rfl) ?_
                obtain ⟨a_10, ha_10, hf⟩ := bd_e hf
                refine Ct.callV (As := []) (rest := []) (st1 := [.int a_10]) (c_X5_allSins l D cI A M a_10 ha_10) hx hb hml hown hts (cwV 0 hts gX5_count_X5_allSins rfl rfl rfl hd_X5_allSins ⟨Nat.le_of_ble_eq_true rfl, Nat.le_of_ble_eq_true rfl⟩) (va_recv hK hP (ci := 5) (q0 := 0) rfl cM_at0) (Ln.id rfl) hA hK hP hD hS rfl hl.1 rfl rfl (Nat.le_of_ble_eq_true rfl) dX5_count_94 (fun H locs hP hD hS => ?_)
                exact hend a_10 H locs _ _ hf hP hS dX5_count_97
              · replace hf := if_f c_9 hf
                by_cases c_11 : p1 = 6
                · replace hf := if_t c_11 hf
                  refine lv_tableIn (off := 76) (tgt := 98) hx hb dX5_count_22 (by rw [c_11]; decide +kernel) (by rw [c_11]; decide +kernel) (by rw [c_11]; decide +kernel) (by decide) ?_
                  refine lv_aload_n hx hb dX5_count_98 rfl (lv_at hl 0 rfl) ?_
                  refine va_get (D := D) (ci := 5) (v := .int (M 16 10)) (C := RX5) (T := TX5) (N := 27) hx hb hts hw5 hown hK hP 0 cM_at0 rfl 26 (by decide) k273 (fun _ h9 => h9) rfl dX5_count_99 ?_
                  exact hend (M 16 10) H locs _ _ hf hP hS dX5_count_102
                · replace hf := if_f c_11 hf
                  by_cases c_12 : p1 = 7
                  · replace hf := if_t c_12 hf
                    refine lv_tableIn (off := 81) (tgt := 103) hx hb dX5_count_22 (by rw [c_12]; decide +kernel) (by rw [c_12]; decide +kernel) (by rw [c_12]; decide +kernel) (by decide) ?_
                    refine lv_aload_n hx hb dX5_count_103 rfl (lv_at hl 0 rfl) ?_
                    refine va_get (D := D) (ci := 5) (v := .int (M 16 4)) (C := RX5) (T := TX5) (N := 27) hx hb hts hw5 hown hK hP 0 cM_at0 rfl 16 (by decide) k72 (fun _ h9 => h9) rfl dX5_count_104 ?_
                    exact hend (M 16 4) H locs _ _ hf hP hS dX5_count_107
                  · replace hf := if_f c_12 hf
                    have ht : (p1).toInt < 0 ∨ 7 < (p1).toInt := by
                      have t0 := lv_neT (a := 0) c_3 (by decide +kernel)
                      have t1 := lv_neT (a := 1) c_4 (by decide +kernel)
                      have t2 := lv_neT (a := 2) c_5 (by decide +kernel)
                      have t3 := lv_neT (a := 3) c_6 (by decide +kernel)
                      have t4 := lv_neT (a := 4) c_7 (by decide +kernel)
                      have t5 := lv_neT (a := 5) c_9 (by decide +kernel)
                      have t6 := lv_neT (a := 6) c_11 (by decide +kernel)
                      have t7 := lv_neT (a := 7) c_12 (by decide +kernel)
                      omega
                    refine lv_tableOut (tgt := 108) hx hb dX5_count_22 ht (by decide) ?_
                    refine lv_bipush (v := -9) hx hb dX5_count_108 (by decide +kernel) ?_
                    exact hend (-9 : Int32) H locs _ _ hf hP hS dX5_count_110
  · replace hf := if_f c_2 hf
    refine lv_aload_n hx hb dX5_count_11 rfl (lv_at hl 0 rfl) ?_
    refine va_get (D := D) (ci := 5) (v := .ref (A 1)) (C := RX5) (T := TX5) (N := 27) hx hb hts hw5 hown hK hP 0 cM_at0 rfl 0 (by decide) k7 (fun _ h9 => h9) rfl dX5_count_12 ?_
    refine lv_iload_n hx hb dX5_count_15 rfl (lv_at hl 1 rfl) ?_
    refine lv_bipush (v := 10) hx hb dX5_count_16 (by decide +kernel) ?_
    refine lv_isub hx hb dX5_count_18 ?_
    obtain ⟨c_13, hf⟩ := gi_e hf
    refine va_iald hx hb hK hP 1 0 cM_at1 rfl c_13 dX5_count_19 ?_
    exact hend (M 0 ((p1 - (10 : Int32))).toNatClampNeg) H locs _ _ hf hP hS dX5_count_20
