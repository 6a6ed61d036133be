def f_X1_isFull (g : St) : Option (Int32) := fz (if (g 1 0) < (96 : Int32) then (some (0 : Int32)) else (some (1 : Int32)))
def rm_X1_isFull : Room := { frames := 0, cells := 0, slots := 0, locals := 0 }
theorem hd_X1_isFull : yX1_isFull.cls = RX1 ∧ yX1_isFull.cls ≠ "java/lang/invoke/MethodHandle" ∧ yX1_isFull.cls ≠ "java/lang/invoke/VarHandle" ∧ (parseMethodDescriptor yX1_isFull.desc).map (fun d => d.parameters.length) = some 0 := by decide +kernel
set_option maxRecDepth 100000 in
set_option maxHeartbeats 4000000 in
theorem c_X1_isFull (l : Launch) (D : va_G) (cI : ClassId) (A : Nat → Nat) (g : St) (r : Int32) (hf : f_X1_isFull g = some r) : Ct l yX1_isFull wsX1_isFull rm_X1_isFull D cI (cG cI A g) (cG cI A g) [.ref (A 0)] (some (.int r)) := by
  unfold f_X1_isFull at hf
  obtain ⟨hz, hf⟩ := fz_e hf
  refine Ct.ofZ hz (cc := cX1_isFull) (maxL := 1) (by decide +kernel) rfl (Nat.le_of_ble_eq_true rfl) ?_
  intro p e s m args below meth c AA Q H locs ls hx hb hml hown hts hA hK hP hD hS hl hend0
  have hend : ∀ (r1 : Int32) (H : Heap) (locs : List Loc) (pc : Nat) (ls : Array Slot), some r1 = some r → va_P D vwCl (cG cI A g) H → va_S AA s.heap H locs → decode cX1_isFull pc = .ok (.ireturn, 1) → W p l e rm_X1_isFull s m args below meth c H locs 0 0 Q (F0 m pc ls [.int r1]) := by
    intro r1 H locs pc ls e1 hP hS hd; cases e1; exact hend0 H locs pc ls hP hS hd
  clear hend0
  have hw1 : ∀ w ∈ wsX10, w ∈ wsX1_isFull := by decide +kernel
  have k15 := hts (.fieldLink RX1 15 "AnchorsForConfession$Letters" "size" "I") (by decide +kernel)
  replace hl : lv_has ls 1 [(0, .ref (A 0))] := hl
  refine lv_aload_n hx hb dX1_isFull_0 rfl (lv_at hl 0 rfl) ?_
  refine va_get (D := D) (ci := 1) (v := .int (g 1 0)) (C := RX1) (T := TX1) (N := 2) hx hb hts hw1 hown hK hP 0 cG_at0 rfl 1 (by decide) k15 (fun _ h9 => h9) rfl dX1_isFull_1 ?_
  refine lv_bipush (v := 96) hx hb dX1_isFull_4 (by decide +kernel) ?_
  refine lv_icmp_lt (tgt := 13) hx hb dX1_isFull_6 (by decide) (fun c_1 => ?_) (fun c_1 => ?_)
  · replace hf := if_t c_1 hf
    refine lv_iconst (v := 0) hx hb dX1_isFull_13 (by decide) ?_
    exact hend (0 : Int32) H locs _ _ hf hP hS dX1_isFull_14
  · replace hf := if_f c_1 hf
    refine lv_iconst (v := 1) hx hb dX1_isFull_9 (by decide) ?_
    refine lv_goto (tgt := 14) hx hb dX1_isFull_10 (by decide) ?_
    exact hend (1 : Int32) H locs _ _ hf hP hS dX1_isFull_14

def f_X1_add (g : St) (p1 : Int32) : Option (Int32 × St) := (if (96 : Int32) ≤ (g 1 0) then (some ((g 1 0), g)) else (gi (g 1 0) 96 (nm (su g 0 ((g 1 0)).toNatClampNeg p1) fun h_3 => (nm (su h_3 1 0 ((h_3 1 0) + (1 : Int32))) fun h_4 => (some ((h_4 1 0), h_4))))))
def rm_X1_add : Room := { frames := 0, cells := 0, slots := 0, locals := 0 }
theorem hd_X1_add : yX1_add.cls = RX1 ∧ yX1_add.cls ≠ "java/lang/invoke/MethodHandle" ∧ yX1_add.cls ≠ "java/lang/invoke/VarHandle" ∧ (parseMethodDescriptor yX1_add.desc).map (fun d => d.parameters.length) = some 1 := by decide +kernel
set_option maxRecDepth 100000 in
set_option maxHeartbeats 4000000 in
theorem c_X1_add (l : Launch) (D : va_G) (cI : ClassId) (A : Nat → Nat) (g : St) (p1 : Int32) (r : Int32 × St) (hf : f_X1_add g p1 = some r) : Ct l yX1_add wsX1_add rm_X1_add D cI (cG cI A g) (cG cI A r.2) [.ref (A 0), .int p1] (some (.int r.1)) := by
  unfold f_X1_add at hf
  refine Ct.ofI (cc := cX1_add) (maxL := 2) (by decide +kernel) rfl (Nat.le_of_ble_eq_true rfl) ?_
  intro p e s m args below meth c AA Q H locs ls hx hb hml hown hts hA hK hP hD hS hl hend0
  have hend : ∀ (r1 : Int32 × St) (H : Heap) (locs : List Loc) (pc : Nat) (ls : Array Slot), some r1 = some r → va_P D vwCl (cG cI A r1.2) H → va_S AA s.heap H locs → decode cX1_add pc = .ok (.ireturn, 1) → W p l e rm_X1_add s m args below meth c H locs 0 0 Q (F0 m pc ls [.int r1.1]) := by
    intro r1 H locs pc ls e1 hP hS hd; cases e1; exact hend0 H locs pc ls hP hS hd
  clear hend0
  have hw1 : ∀ w ∈ wsX10, w ∈ wsX1_add := by decide +kernel
  have k11 := hts (.fieldLink RX1 11 "AnchorsForConfession$Letters" "signs" "[I") (by decide +kernel)
  have k15 := hts (.fieldLink RX1 15 "AnchorsForConfession$Letters" "size" "I") (by decide +kernel)
  replace hl : lv_has ls 2 [(0, .ref (A 0)), (1, .int p1)] := hl
  refine lv_aload_n hx hb dX1_add_0 rfl (lv_at hl 0 rfl) ?_
  refine va_get (D := D) (ci := 1) (v := .int (g 1 0)) (C := RX1) (T := TX1) (N := 2) hx hb hts hw1 hown hK hP 0 cG_at0 rfl 1 (by decide) k15 (fun _ h9 => h9) rfl dX1_add_1 ?_
  refine lv_bipush (v := 96) hx hb dX1_add_4 (by decide +kernel) ?_
  refine lv_icmp_ge (tgt := 29) hx hb dX1_add_6 (by decide) (fun c_1 => ?_) (fun c_1 => ?_)
  · replace hf := if_t c_1 hf
    refine lv_aload_n hx hb dX1_add_29 rfl (lv_at hl 0 rfl) ?_
    refine va_get (D := D) (ci := 1) (v := .int (g 1 0)) (C := RX1) (T := TX1) (N := 2) hx hb hts hw1 hown hK hP 0 cG_at0 rfl 1 (by decide) k15 (fun _ h9 => h9) rfl dX1_add_30 ?_
    exact hend ((g 1 0), g) H locs _ _ hf hP hS dX1_add_33
  · replace hf := if_f c_1 hf
    refine lv_aload_n hx hb dX1_add_9 rfl (lv_at hl 0 rfl) ?_
    refine va_get (D := D) (ci := 1) (v := .ref (A 1)) (C := RX1) (T := TX1) (N := 2) hx hb hts hw1 hown hK hP 0 cG_at0 rfl 0 (by decide) k11 (fun _ h9 => h9) rfl dX1_add_10 ?_
    refine lv_aload_n hx hb dX1_add_13 rfl (lv_at hl 0 rfl) ?_
    refine va_get (D := D) (ci := 1) (v := .int (g 1 0)) (C := RX1) (T := TX1) (N := 2) hx hb hts hw1 hown hK hP 0 cG_at0 rfl 1 (by decide) k15 (fun _ h9 => h9) rfl dX1_add_14 ?_
    refine lv_iload_n hx hb dX1_add_17 rfl (lv_at hl 1 rfl) ?_
    obtain ⟨c_2, hf⟩ := gi_e hf
    refine va_iast hx hb hK hP hD hS 1 0 cG_at1 rfl c_2 dX1_add_18 (fun H locs hP hD hS => ?_)
    obtain ⟨h_3, eh_3, hf⟩ := nm_e hf
    rw [cG_su1, ← eh_3] at hP hD
    refine lv_aload_n hx hb dX1_add_19 rfl (lv_at hl 0 rfl) ?_
    refine lv_dup hx hb dX1_add_20 rfl ?_
    refine va_get (D := D) (ci := 1) (v := .int (h_3 1 0)) (C := RX1) (T := TX1) (N := 2) hx hb hts hw1 hown hK hP 0 cG_at0 rfl 1 (by decide) k15 (fun _ h9 => h9) rfl dX1_add_21 ?_
    refine lv_iconst (v := 1) hx hb dX1_add_24 (by decide) ?_
    refine lv_iadd hx hb dX1_add_25 ?_
    refine va_put (D := D) (ci := 1) (v := .int ((h_3 1 0) + (1 : Int32))) (ty := .int) (C := RX1) (T := TX1) (N := 2) hx hb hts hw1 tyX1 tyX1_ok nmX1 hown hK hP hD hS 0 cG_at0 rfl 1 (by decide) k15 (fun _ h9 => h9) rfl (tyX1_ok 1 (by decide)) rfl rfl (Nat.le_of_ble_eq_true rfl) dX1_add_26 (fun H locs hP hD hS => ?_)
    obtain ⟨h_4, eh_4, hf⟩ := nm_e hf
    rw [cG_sc0_1, ← eh_4] at hP hD
    refine lv_aload_n hx hb dX1_add_29 rfl (lv_at hl 0 rfl) ?_
    refine va_get (D := D) (ci := 1) (v := .int (h_4 1 0)) (C := RX1) (T := TX1) (N := 2) hx hb hts hw1 hown hK hP 0 cG_at0 rfl 1 (by decide) k15 (fun _ h9 => h9) rfl dX1_add_30 ?_
    exact hend ((h_4 1 0), h_4) H locs _ _ hf hP hS dX1_add_33

def f_X1_drop (g : St) : Option (St) := (nm (su g 1 0 (0 : Int32)) fun h_1 => (some h_1))
def rm_X1_drop : Room := { frames := 0, cells := 0, slots := 0, locals := 0 }
theorem hd_X1_drop : yX1_drop.cls = RX1 ∧ yX1_drop.cls ≠ "java/lang/invoke/MethodHandle" ∧ yX1_drop.cls ≠ "java/lang/invoke/VarHandle" ∧ (parseMethodDescriptor yX1_drop.desc).map (fun d => d.parameters.length) = some 0 := by decide +kernel
set_option maxRecDepth 100000 in
set_option maxHeartbeats 4000000 in
theorem c_X1_drop (l : Launch) (D : va_G) (cI : ClassId) (A : Nat → Nat) (g : St) (r : St) (hf : f_X1_drop g = some r) : Ct l yX1_drop wsX1_drop rm_X1_drop D cI (cG cI A g) (cG cI A r) [.ref (A 0)] none := by
  unfold f_X1_drop at hf
  refine Ct.ofV (cc := cX1_drop) (maxL := 1) (by decide +kernel) rfl (Nat.le_of_ble_eq_true rfl) ?_
  intro p e s m args below meth c AA Q H locs ls hx hb hml hown hts hA hK hP hD hS hl hend0
  have hend : ∀ (r1 : St) (H : Heap) (locs : List Loc) (pc : Nat) (ls : Array Slot), some r1 = some r → va_P D vwCl (cG cI A r1) H → va_S AA s.heap H locs → decode cX1_drop pc = .ok (.return_, 1) → W p l e rm_X1_drop s m args below meth c H locs 0 0 Q (F0 m pc ls []) := by
    intro r1 H locs pc ls e1 hP hS hd; cases e1; exact hend0 H locs pc ls hP hS hd
  clear hend0
  have hw1 : ∀ w ∈ wsX10, w ∈ wsX1_drop := by decide +kernel
  have k15 := hts (.fieldLink RX1 15 "AnchorsForConfession$Letters" "size" "I") (by decide +kernel)
  replace hl : lv_has ls 1 [(0, .ref (A 0))] := hl
  refine lv_aload_n hx hb dX1_drop_0 rfl (lv_at hl 0 rfl) ?_
  refine lv_iconst (v := 0) hx hb dX1_drop_1 (by decide) ?_
  refine va_put (D := D) (ci := 1) (v := .int (0 : Int32)) (ty := .int) (C := RX1) (T := TX1) (N := 2) hx hb hts hw1 tyX1 tyX1_ok nmX1 hown hK hP hD hS 0 cG_at0 rfl 1 (by decide) k15 (fun _ h9 => h9) rfl (tyX1_ok 1 (by decide)) rfl rfl (Nat.le_of_ble_eq_true rfl) dX1_drop_2 (fun H locs hP hD hS => ?_)
  obtain ⟨h_1, eh_1, hf⟩ := nm_e hf
  rw [cG_sc0_1, ← eh_1] at hP hD
  exact hend h_1 H locs _ _ hf hP hS dX1_drop_5

def f_X1_fits (p1 : Int32) (p2 : Int32) : Option (Int32) := fz (if p2 = 57 then (if p1 < (48 : Int32) then (some (0 : Int32)) else (if (57 : Int32) < p1 then (some (0 : Int32)) else (some (1 : Int32)))) else (if p2 = 107 then (bd (f_X1_kindOf p1) fun a_5 => (if a_5 < 0 then (some (0 : Int32)) else (some (1 : Int32)))) else (if p1 = p2 then (some (1 : Int32)) else (some (0 : Int32)))))
def rm_X1_fits : Room := { frames := 4, cells := 0, slots := 0, locals := 140 }
theorem hd_X1_fits : yX1_fits.cls ≠ "java/lang/invoke/MethodHandle" ∧ yX1_fits.cls ≠ "java/lang/invoke/VarHandle" ∧ (parseMethodDescriptor yX1_fits.desc).map (fun d => d.parameters.length) = some 2 := by decide +kernel
set_option maxRecDepth 100000 in
set_option maxHeartbeats 4000000 in
theorem c_X1_fits (l : Launch) (D : va_G) (cI : ClassId) (p1 : Int32) (p2 : Int32) (r : Int32) (hf : f_X1_fits p1 p2 = some r) : Ct l yX1_fits wsX1_fits rm_X1_fits D cI [] [] [.int p1, .int p2] (some (.int r)) := by
  unfold f_X1_fits at hf
  obtain ⟨hz, hf⟩ := fz_e hf
  refine Ct.ofZ hz (cc := cX1_fits) (maxL := 2) (by decide +kernel) rfl (Nat.le_of_ble_eq_true rfl) ?_
  intro p e s m args below meth c AA Q H locs ls hx hb hml hown hts hA hK hP hD hS hl hend0
  have hend : ∀ (r1 : Int32) (H : Heap) (locs : List Loc) (pc : Nat) (ls : Array Slot), some r1 = some r → va_P D vwCl [] H → va_S AA s.heap H locs → decode cX1_fits pc = .ok (.ireturn, 1) → W p l e rm_X1_fits s m args below meth c H locs 0 0 Q (F0 m pc ls [.int r1]) := by
    intro r1 H locs pc ls e1 hP hS hd; cases e1; exact hend0 H locs pc ls hP hS hd
  clear hend0
  replace hl : lv_has ls 2 [(0, .int p1), (1, .int p2)] := hl
  refine lv_iload_n hx hb dX1_fits_0 rfl (lv_at hl 1 rfl) ?_
  by_cases c_1 : p2 = 57
  · replace hf := if_t c_1 hf
    refine lv_lookup (off := 40) (tgt := 41) hx hb dX1_fits_1 (by decide) (by rw [c_1]; decide +kernel) (by decide) ?_
    refine lv_iload_n hx hb dX1_fits_41 rfl (lv_at hl 0 rfl) ?_
    refine lv_bipush (v := 48) hx hb dX1_fits_42 (by decide +kernel) ?_
    refine lv_icmp_lt (tgt := 57) hx hb dX1_fits_44 (by decide) (fun c_2 => ?_) (fun c_2 => ?_)
    · replace hf := if_t c_2 hf
      refine lv_iconst (v := 0) hx hb dX1_fits_57 (by decide) ?_
      exact hend (0 : Int32) H locs _ _ hf hP hS dX1_fits_58
    · replace hf := if_f c_2 hf
      refine lv_iload_n hx hb dX1_fits_47 rfl (lv_at hl 0 rfl) ?_
      refine lv_bipush (v := 57) hx hb dX1_fits_48 (by decide +kernel) ?_
      refine lv_icmp_gt (tgt := 57) hx hb dX1_fits_50 (by decide) (fun c_3 => ?_) (fun c_3 => ?_)
      · replace hf := if_t c_3 hf
        refine lv_iconst (v := 0) hx hb dX1_fits_57 (by decide) ?_
        exact hend (0 : Int32) H locs _ _ hf hP hS dX1_fits_58
      · replace hf := if_f c_3 hf
        refine lv_iconst (v := 1) hx hb dX1_fits_53 (by decide) ?_
        refine lv_goto (tgt := 58) hx hb dX1_fits_54 (by decide) ?_
        exact hend (1 : Int32) H locs _ _ hf hP hS dX1_fits_58
  · replace hf := if_f c_1 hf
    by_cases c_4 : p2 = 107
    · replace hf := if_t c_4 hf
      refine lv_lookup (off := 27) (tgt := 28) hx hb dX1_fits_1 (by decide) (by rw [c_4]; decide +kernel) (by decide) ?_
      refine lv_iload_n hx hb dX1_fits_28 rfl (lv_at hl 0 rfl) ?_
      obtain ⟨a_5, ha_5, hf⟩ := bd_e hf
      refine Ct.callS (As := [.int p1]) (rest := []) (st1 := [.int a_5]) (c_X1_kindOf l D cI  p1 a_5 ha_5) hx hb hml hown hts (va_cwS 1 hts gX1_fits_X1_kindOf rfl rfl rfl hd_X1_kindOf ⟨Nat.le_of_ble_eq_true rfl, Nat.le_of_ble_eq_true rfl⟩) (Ln.id rfl) hA hK hP hD hS rfl hl.1 rfl rfl (Nat.le_of_ble_eq_true rfl) dX1_fits_29 (fun H locs hP hD hS => ?_)
      refine lv_if_lt (tgt := 39) hx hb dX1_fits_32 (by decide) (fun c_6 => ?_) (fun c_6 => ?_)
      · replace hf := if_t c_6 hf
        refine lv_iconst (v := 0) hx hb dX1_fits_39 (by decide) ?_
        exact hend (0 : Int32) H locs _ _ hf hP hS dX1_fits_40
      · replace hf := if_f c_6 hf
        refine lv_iconst (v := 1) hx hb dX1_fits_35 (by decide) ?_
        refine lv_goto (tgt := 40) hx hb dX1_fits_36 (by decide) ?_
        exact hend (1 : Int32) H locs _ _ hf hP hS dX1_fits_40
    · replace hf := if_f c_4 hf
      refine lv_lookup (off := 58) (tgt := 59) hx hb dX1_fits_1 (by decide) (by show Op.lookupswitch.offset [(57, 40), (107, 27)] 58 _ = _; rw [lv_osw c_1 (by decide +kernel), lv_osw c_4 (by decide +kernel)]; rfl) (by decide) ?_
      refine lv_iload_n hx hb dX1_fits_59 rfl (lv_at hl 0 rfl) ?_
      refine lv_iload_n hx hb dX1_fits_60 rfl (lv_at hl 1 rfl) ?_
      refine lv_icmp_ne (tgt := 68) hx hb dX1_fits_61 (by decide) (fun c_7 => ?_) (fun c_7 => ?_)
      · replace hf := if_f c_7 hf
        refine lv_iconst (v := 0) hx hb dX1_fits_68 (by decide) ?_
        exact hend (0 : Int32) H locs _ _ hf hP hS dX1_fits_69
      · replace hf := if_t c_7 hf
        refine lv_iconst (v := 1) hx hb dX1_fits_64 (by decide) ?_
        refine lv_goto (tgt := 69) hx hb dX1_fits_65 (by decide) ?_
        exact hend (1 : Int32) H locs _ _ hf hP hS dX1_fits_69

def f_X1_signAt (g : St) (p1 : Int32) : Option (Int32) := (if p1 < 0 then (some (0 : Int32)) else (if (g 1 0) ≤ p1 then (some (0 : Int32)) else (gi p1 96 (some (g 0 (p1).toNatClampNeg)))))
def rm_X1_signAt : Room := { frames := 0, cells := 0, slots := 0, locals := 0 }
theorem hd_X1_signAt : yX1_signAt.cls = RX1 ∧ yX1_signAt.cls ≠ "java/lang/invoke/MethodHandle" ∧ yX1_signAt.cls ≠ "java/lang/invoke/VarHandle" ∧ (parseMethodDescriptor yX1_signAt.desc).map (fun d => d.parameters.length) = some 1 := by decide +kernel
set_option maxRecDepth 100000 in
set_option maxHeartbeats 4000000 in
theorem c_X1_signAt (l : Launch) (D : va_G) (cI : ClassId) (A : Nat → Nat) (g : St) (p1 : Int32) (r : Int32) (hf : f_X1_signAt g p1 = some r) : Ct l yX1_signAt wsX1_signAt rm_X1_signAt D cI (cG cI A g) (cG cI A g) [.ref (A 0), .int p1] (some (.int r)) := by
  unfold f_X1_signAt at hf
  refine Ct.ofI (cc := cX1_signAt) (maxL := 2) (by decide +kernel) rfl (Nat.le_of_ble_eq_true rfl) ?_
  intro p e s m args below meth c AA Q H locs ls hx hb hml hown hts hA hK hP hD hS hl hend0
  have hend : ∀ (r1 : Int32) (H : Heap) (locs : List Loc) (pc : Nat) (ls : Array Slot), some r1 = some r → va_P D vwCl (cG cI A g) H → va_S AA s.heap H locs → decode cX1_signAt pc = .ok (.ireturn, 1) → W p l e rm_X1_signAt s m args below meth c H locs 0 0 Q (F0 m pc ls [.int r1]) := by
    intro r1 H locs pc ls e1 hP hS hd; cases e1; exact hend0 H locs pc ls hP hS hd
  clear hend0
  have hw1 : ∀ w ∈ wsX10, w ∈ wsX1_signAt := by decide +kernel
  have k11 := hts (.fieldLink RX1 11 "AnchorsForConfession$Letters" "signs" "[I") (by decide +kernel)
  have k15 := hts (.fieldLink RX1 15 "AnchorsForConfession$Letters" "size" "I") (by decide +kernel)
  replace hl : lv_has ls 2 [(0, .ref (A 0)), (1, .int p1)] := hl
  refine lv_iload_n hx hb dX1_signAt_0 rfl (lv_at hl 1 rfl) ?_
  refine lv_if_lt (tgt := 21) hx hb dX1_signAt_1 (by decide) (fun c_1 => ?_) (fun c_1 => ?_)
  · replace hf := if_t c_1 hf
    refine lv_iconst (v := 0) hx hb dX1_signAt_21 (by decide) ?_
    exact hend (0 : Int32) H locs _ _ hf hP hS dX1_signAt_22
  · replace hf := if_f c_1 hf
    refine lv_iload_n hx hb dX1_signAt_4 rfl (lv_at hl 1 rfl) ?_
    refine lv_aload_n hx hb dX1_signAt_5 rfl (lv_at hl 0 rfl) ?_
    refine va_get (D := D) (ci := 1) (v := .int (g 1 0)) (C := RX1) (T := TX1) (N := 2) hx hb hts hw1 hown hK hP 0 cG_at0 rfl 1 (by decide) k15 (fun _ h9 => h9) rfl dX1_signAt_6 ?_
    refine lv_icmp_ge (tgt := 21) hx hb dX1_signAt_9 (by decide) (fun c_2 => ?_) (fun c_2 => ?_)
    · replace hf := if_t c_2 hf
      refine lv_iconst (v := 0) hx hb dX1_signAt_21 (by decide) ?_
      exact hend (0 : Int32) H locs _ _ hf hP hS dX1_signAt_22
    · replace hf := if_f c_2 hf
      refine lv_aload_n hx hb dX1_signAt_12 rfl (lv_at hl 0 rfl) ?_
      refine va_get (D := D) (ci := 1) (v := .ref (A 1)) (C := RX1) (T := TX1) (N := 2) hx hb hts hw1 hown hK hP 0 cG_at0 rfl 0 (by decide) k11 (fun _ h9 => h9) rfl dX1_signAt_13 ?_
      refine lv_iload_n hx hb dX1_signAt_16 rfl (lv_at hl 1 rfl) ?_
      obtain ⟨c_3, hf⟩ := gi_e hf
      refine va_iald hx hb hK hP 1 0 cG_at1 rfl c_3 dX1_signAt_17 ?_
      refine lv_goto (tgt := 22) hx hb dX1_signAt_18 (by decide) ?_
      exact hend (g 0 (p1).toNatClampNeg) H locs _ _ hf hP hS dX1_signAt_22

def f_X1_digit (g : St) (p1 : Int32) : Option (Int32) := (bd (f_X1_signAt g p1) fun a_1 => (some (a_1 - (48 : Int32))))
def rm_X1_digit : Room := { frames := 1, cells := 0, slots := 0, locals := 21 }
theorem hd_X1_digit : yX1_digit.cls = RX1 ∧ yX1_digit.cls ≠ "java/lang/invoke/MethodHandle" ∧ yX1_digit.cls ≠ "java/lang/invoke/VarHandle" ∧ (parseMethodDescriptor yX1_digit.desc).map (fun d => d.parameters.length) = some 1 := by decide +kernel
set_option maxRecDepth 100000 in
set_option maxHeartbeats 4000000 in
theorem c_X1_digit (l : Launch) (D : va_G) (cI : ClassId) (A : Nat → Nat) (g : St) (p1 : Int32) (r : Int32) (hf : f_X1_digit g p1 = some r) : Ct l yX1_digit wsX1_digit rm_X1_digit D cI (cG cI A g) (cG cI A g) [.ref (A 0), .int p1] (some (.int r)) := by
  unfold f_X1_digit at hf
  refine Ct.ofI (cc := cX1_digit) (maxL := 2) (by decide +kernel) rfl (Nat.le_of_ble_eq_true rfl) ?_
  intro p e s m args below meth c AA Q H locs ls hx hb hml hown hts hA hK hP hD hS hl hend0
  have hend : ∀ (r1 : Int32) (H : Heap) (locs : List Loc) (pc : Nat) (ls : Array Slot), some r1 = some r → va_P D vwCl (cG cI A g) H → va_S AA s.heap H locs → decode cX1_digit pc = .ok (.ireturn, 1) → W p l e rm_X1_digit s m args below meth c H locs 0 0 Q (F0 m pc ls [.int r1]) := by
    intro r1 H locs pc ls e1 hP hS hd; cases e1; exact hend0 H locs pc ls hP hS hd
  clear hend0
  replace hl : lv_has ls 2 [(0, .ref (A 0)), (1, .int p1)] := hl
  refine lv_aload_n hx hb dX1_digit_0 rfl (lv_at hl 0 rfl) ?_
  refine lv_iload_n hx hb dX1_digit_1 rfl (lv_at hl 1 rfl) ?_
  obtain ⟨a_1, ha_1, hf⟩ := bd_e hf
  refine Ct.callV (As := [.int p1]) (rest := []) (st1 := [.int a_1]) (c_X1_signAt l D cI A g p1 a_1 ha_1) hx hb hml hown hts (cwV 1 hts gX1_digit_X1_signAt rfl rfl rfl hd_X1_signAt ⟨Nat.le_of_ble_eq_true rfl, Nat.le_of_ble_eq_true rfl⟩) (va_recv hK hP (ci := 1) (q0 := 0) rfl cG_at0) (Ln.id rfl) hA hK hP hD hS rfl hl.1 rfl rfl (Nat.le_of_ble_eq_true rfl) dX1_digit_2 (fun H locs hP hD hS => ?_)
  refine lv_bipush (v := 48) hx hb dX1_digit_5 (by decide +kernel) ?_
  refine lv_isub hx hb dX1_digit_7 ?_
  exact hend (a_1 - (48 : Int32)) H locs _ _ hf hP hS dX1_digit_8

def f_X1_boardingHappens (h : St) (p1 : Int32) (p2 : Int32) : Option (Int32 × St) := fzp (bd (f_X0_hasMan h p1) fun a_1 => (if a_1 = 0 then (some ((0 : Int32), h)) else (bd (f_X0_hasShip h p2) fun a_3 => (if a_3 = 0 then (some ((0 : Int32), h)) else (gi p1 8 (nm (su h 7 (p1).toNatClampNeg p2) fun h_6 => (some ((1 : Int32), h_6))))))))
def rm_X1_boardingHappens : Room := { frames := 1, cells := 0, slots := 0, locals := 21 }
theorem hd_X1_boardingHappens : yX1_boardingHappens.cls ≠ "java/lang/invoke/MethodHandle" ∧ yX1_boardingHappens.cls ≠ "java/lang/invoke/VarHandle" ∧ (parseMethodDescriptor yX1_boardingHappens.desc).map (fun d => d.parameters.length) = some 3 := by decide +kernel
set_option maxRecDepth 100000 in
set_option maxHeartbeats 4000000 in
theorem c_X1_boardingHappens (l : Launch) (D : va_G) (cI : ClassId) (A : Nat → Nat) (h : St) (p1 : Int32) (p2 : Int32) (r : Int32 × St) (hf : f_X1_boardingHappens h p1 p2 = some r) : Ct l yX1_boardingHappens wsX1_boardingHappens rm_X1_boardingHappens D cI (cH cI A h) (cH cI A r.2) [.int p1, .int p2, .ref (A 0)] (some (.int r.1)) := by
  unfold f_X1_boardingHappens at hf
  obtain ⟨hz, hf⟩ := fzp_e hf
  refine Ct.ofZ hz (cc := cX1_boardingHappens) (maxL := 3) (by decide +kernel) rfl (Nat.le_of_ble_eq_true rfl) ?_
  intro p e s m args below meth c AA Q H locs ls hx hb hml hown hts hA hK hP hD hS hl hend0
  have hend : ∀ (r1 : Int32 × St) (H : Heap) (locs : List Loc) (pc : Nat) (ls : Array Slot), some r1 = some r → va_P D vwCl (cH cI A r1.2) H → va_S AA s.heap H locs → decode cX1_boardingHappens pc = .ok (.ireturn, 1) → W p l e rm_X1_boardingHappens s m args below meth c H locs 0 0 Q (F0 m pc ls [.int r1.1]) := by
    intro r1 H locs pc ls e1 hP hS hd; cases e1; exact hend0 H locs pc ls hP hS hd
  clear hend0
  have hw0 : ∀ w ∈ wsX00, w ∈ wsX1_boardingHappens := by decide +kernel
  have k103 := hts (.fieldLink RX1 103 "AnchorsForConfession$Harbour" "aboard" "[I") (by decide +kernel)
  replace hl : lv_has ls 3 [(0, .int p1), (1, .int p2), (2, .ref (A 0))] := hl
  refine lv_aload_n hx hb dX1_boardingHappens_0 rfl (lv_at hl 2 rfl) ?_
  refine lv_iload_n hx hb dX1_boardingHappens_1 rfl (lv_at hl 0 rfl) ?_
  obtain ⟨a_1, ha_1, hf⟩ := bd_e hf
  refine Ct.callV (As := [.int p1]) (rest := []) (st1 := [.int a_1]) (c_X0_hasMan l D cI A h p1 a_1 ha_1) hx hb hml hown hts (cwV 1 hts gX1_boardingHappens_X0_hasMan rfl rfl rfl hd_X0_hasMan ⟨Nat.le_of_ble_eq_true rfl, Nat.le_of_ble_eq_true rfl⟩) (va_recv hK hP (ci := 0) (q0 := 0) rfl cH_at0) (Ln.id rfl) hA hK hP hD hS rfl hl.1 rfl rfl (Nat.le_of_ble_eq_true rfl) dX1_boardingHappens_2 (fun H locs hP hD hS => ?_)
  refine lv_if_eq (tgt := 16) hx hb dX1_boardingHappens_5 (by decide) (fun c_2 => ?_) (fun c_2 => ?_)
  · replace hf := if_t c_2 hf
    refine lv_iconst (v := 0) hx hb dX1_boardingHappens_16 (by decide) ?_
    exact hend ((0 : Int32), h) H locs _ _ hf hP hS dX1_boardingHappens_17
  · replace hf := if_f c_2 hf
    refine lv_aload_n hx hb dX1_boardingHappens_8 rfl (lv_at hl 2 rfl) ?_
    refine lv_iload_n hx hb dX1_boardingHappens_9 rfl (lv_at hl 1 rfl) ?_
    obtain ⟨a_3, ha_3, hf⟩ := bd_e hf
    refine Ct.callV (As := [.int p2]) (rest := []) (st1 := [.int a_3]) (c_X0_hasShip l D cI A h p2 a_3 ha_3) hx hb hml hown hts (cwV 1 hts gX1_boardingHappens_X0_hasShip rfl rfl rfl hd_X0_hasShip ⟨Nat.le_of_ble_eq_true rfl, Nat.le_of_ble_eq_true rfl⟩) (va_recv hK hP (ci := 0) (q0 := 0) rfl cH_at0) (Ln.id rfl) hA hK hP hD hS rfl hl.1 rfl rfl (Nat.le_of_ble_eq_true rfl) dX1_boardingHappens_10 (fun H locs hP hD hS => ?_)
    refine lv_if_ne (tgt := 18) hx hb dX1_boardingHappens_13 (by decide) (fun c_4 => ?_) (fun c_4 => ?_)
    · replace hf := if_f c_4 hf
      refine lv_aload_n hx hb dX1_boardingHappens_18 rfl (lv_at hl 2 rfl) ?_
      refine va_get (D := D) (ci := 0) (v := .ref (A 7)) (C := RX0) (T := TX0) (N := 12) hx hb hts hw0 hown hK hP 0 cH_at0 rfl 8 (by decide) k103 (fun _ h9 => h9) rfl dX1_boardingHappens_19 ?_
      refine lv_iload_n hx hb dX1_boardingHappens_22 rfl (lv_at hl 0 rfl) ?_
      refine lv_iload_n hx hb dX1_boardingHappens_23 rfl (lv_at hl 1 rfl) ?_
      obtain ⟨c_5, hf⟩ := gi_e hf
      refine va_iast hx hb hK hP hD hS 7 0 cH_at7 rfl c_5 dX1_boardingHappens_24 (fun H locs hP hD hS => ?_)
      obtain ⟨h_6, eh_6, hf⟩ := nm_e hf
      rw [cH_su7, ← eh_6] at hP hD
      refine lv_iconst (v := 1) hx hb dX1_boardingHappens_25 (by decide) ?_
      exact hend ((1 : Int32), h_6) H locs _ _ hf hP hS dX1_boardingHappens_26
    · replace hf := if_t c_4 hf
      refine lv_iconst (v := 0) hx hb dX1_boardingHappens_16 (by decide) ?_
      exact hend ((0 : Int32), h) H locs _ _ hf hP hS dX1_boardingHappens_17

def f_X1_sinsHappen (h : St) (p1 : Int32) (p2 : Int32) : Option (Int32 × St) := fzp (bd (f_X0_hasMan h p1) fun a_1 => (if a_1 = 0 then (some ((0 : Int32), h)) else (gi p1 8 (nm (su h 6 (p1).toNatClampNeg p2) fun h_4 => (some ((1 : Int32), h_4))))))
def rm_X1_sinsHappen : Room := { frames := 1, cells := 0, slots := 0, locals := 21 }
theorem hd_X1_sinsHappen : yX1_sinsHappen.cls ≠ "java/lang/invoke/MethodHandle" ∧ yX1_sinsHappen.cls ≠ "java/lang/invoke/VarHandle" ∧ (parseMethodDescriptor yX1_sinsHappen.desc).map (fun d => d.parameters.length) = some 3 := by decide +kernel
set_option maxRecDepth 100000 in
set_option maxHeartbeats 4000000 in
theorem c_X1_sinsHappen (l : Launch) (D : va_G) (cI : ClassId) (A : Nat → Nat) (h : St) (p1 : Int32) (p2 : Int32) (r : Int32 × St) (hf : f_X1_sinsHappen h p1 p2 = some r) : Ct l yX1_sinsHappen wsX1_sinsHappen rm_X1_sinsHappen D cI (cH cI A h) (cH cI A r.2) [.int p1, .int p2, .ref (A 0)] (some (.int r.1)) := by
  unfold f_X1_sinsHappen at hf
  obtain ⟨hz, hf⟩ := fzp_e hf
  refine Ct.ofZ hz (cc := cX1_sinsHappen) (maxL := 3) (by decide +kernel) rfl (Nat.le_of_ble_eq_true rfl) ?_
  intro p e s m args below meth c AA Q H locs ls hx hb hml hown hts hA hK hP hD hS hl hend0
  have hend : ∀ (r1 : Int32 × St) (H : Heap) (locs : List Loc) (pc : Nat) (ls : Array Slot), some r1 = some r → va_P D vwCl (cH cI A r1.2) H → va_S AA s.heap H locs → decode cX1_sinsHappen pc = .ok (.ireturn, 1) → W p l e rm_X1_sinsHappen s m args below meth c H locs 0 0 Q (F0 m pc ls [.int r1.1]) := by
    intro r1 H locs pc ls e1 hP hS hd; cases e1; exact hend0 H locs pc ls hP hS hd
  clear hend0
  have hw0 : ∀ w ∈ wsX00, w ∈ wsX1_sinsHappen := by decide +kernel
  have k106 := hts (.fieldLink RX1 106 "AnchorsForConfession$Harbour" "sinsOf" "[I") (by decide +kernel)
  replace hl : lv_has ls 3 [(0, .int p1), (1, .int p2), (2, .ref (A 0))] := hl
  refine lv_aload_n hx hb dX1_sinsHappen_0 rfl (lv_at hl 2 rfl) ?_
  refine lv_iload_n hx hb dX1_sinsHappen_1 rfl (lv_at hl 0 rfl) ?_
  obtain ⟨a_1, ha_1, hf⟩ := bd_e hf
  refine Ct.callV (As := [.int p1]) (rest := []) (st1 := [.int a_1]) (c_X0_hasMan l D cI A h p1 a_1 ha_1) hx hb hml hown hts (cwV 1 hts gX1_sinsHappen_X0_hasMan rfl rfl rfl hd_X0_hasMan ⟨Nat.le_of_ble_eq_true rfl, Nat.le_of_ble_eq_true rfl⟩) (va_recv hK hP (ci := 0) (q0 := 0) rfl cH_at0) (Ln.id rfl) hA hK hP hD hS rfl hl.1 rfl rfl (Nat.le_of_ble_eq_true rfl) dX1_sinsHappen_2 (fun H locs hP hD hS => ?_)
  refine lv_if_ne (tgt := 10) hx hb dX1_sinsHappen_5 (by decide) (fun c_2 => ?_) (fun c_2 => ?_)
  · replace hf := if_f c_2 hf
    refine lv_aload_n hx hb dX1_sinsHappen_10 rfl (lv_at hl 2 rfl) ?_
    refine va_get (D := D) (ci := 0) (v := .ref (A 6)) (C := RX0) (T := TX0) (N := 12) hx hb hts hw0 hown hK hP 0 cH_at0 rfl 7 (by decide) k106 (fun _ h9 => h9) rfl dX1_sinsHappen_11 ?_
    refine lv_iload_n hx hb dX1_sinsHappen_14 rfl (lv_at hl 0 rfl) ?_
    refine lv_iload_n hx hb dX1_sinsHappen_15 rfl (lv_at hl 1 rfl) ?_
    obtain ⟨c_3, hf⟩ := gi_e hf
    refine va_iast hx hb hK hP hD hS 6 0 cH_at6 rfl c_3 dX1_sinsHappen_16 (fun H locs hP hD hS => ?_)
    obtain ⟨h_4, eh_4, hf⟩ := nm_e hf
    rw [cH_su6, ← eh_4] at hP hD
    refine lv_iconst (v := 1) hx hb dX1_sinsHappen_17 (by decide) ?_
    exact hend ((1 : Int32), h_4) H locs _ _ hf hP hS dX1_sinsHappen_18
  · replace hf := if_t c_2 hf
    refine lv_iconst (v := 0) hx hb dX1_sinsHappen_8 (by decide) ?_
    exact hend ((0 : Int32), h) H locs _ _ hf hP hS dX1_sinsHappen_9

def f_X1_tidesHappen (h : St) (p1 : Int32) : Option (Int32 × St) := fzp (if p1 < (1 : Int32) then (some ((0 : Int32), h)) else (if (60 : Int32) < p1 then (some ((0 : Int32), h)) else (bd (f_X0_hasTidesLeft h p1) fun a_3 => (if a_3 = 0 then (some ((0 : Int32), h)) else (bd (f_X0_passTides h p1) fun a_5 => (some ((1 : Int32), a_5)))))))
def rm_X1_tidesHappen : Room := { frames := 3, cells := 0, slots := 0, locals := 64 }
theorem hd_X1_tidesHappen : yX1_tidesHappen.cls ≠ "java/lang/invoke/MethodHandle" ∧ yX1_tidesHappen.cls ≠ "java/lang/invoke/VarHandle" ∧ (parseMethodDescriptor yX1_tidesHappen.desc).map (fun d => d.parameters.length) = some 2 := by decide +kernel
set_option maxRecDepth 100000 in
set_option maxHeartbeats 4000000 in
theorem c_X1_tidesHappen (l : Launch) (D : va_G) (cI : ClassId) (A : Nat → Nat) (h : St) (p1 : Int32) (r : Int32 × St) (hf : f_X1_tidesHappen h p1 = some r) : Ct l yX1_tidesHappen wsX1_tidesHappen rm_X1_tidesHappen D cI (cH cI A h) (cH cI A r.2) [.int p1, .ref (A 0)] (some (.int r.1)) := by
  unfold f_X1_tidesHappen at hf
  obtain ⟨hz, hf⟩ := fzp_e hf
  refine Ct.ofZ hz (cc := cX1_tidesHappen) (maxL := 2) (by decide +kernel) rfl (Nat.le_of_ble_eq_true rfl) ?_
  intro p e s m args below meth c AA Q H locs ls hx hb hml hown hts hA hK hP hD hS hl hend0
  have hend : ∀ (r1 : Int32 × St) (H : Heap) (locs : List Loc) (pc : Nat) (ls : Array Slot), some r1 = some r → va_P D vwCl (cH cI A r1.2) H → va_S AA s.heap H locs → decode cX1_tidesHappen pc = .ok (.ireturn, 1) → W p l e rm_X1_tidesHappen s m args below meth c H locs 0 0 Q (F0 m pc ls [.int r1.1]) := by
    intro r1 H locs pc ls e1 hP hS hd; cases e1; exact hend0 H locs pc ls hP hS hd
  clear hend0
  replace hl : lv_has ls 2 [(0, .int p1), (1, .ref (A 0))] := hl
  refine lv_iload_n hx hb dX1_tidesHappen_0 rfl (lv_at hl 0 rfl) ?_
  refine lv_iconst (v := 1) hx hb dX1_tidesHappen_1 (by decide) ?_
  refine lv_icmp_lt (tgt := 19) hx hb dX1_tidesHappen_2 (by decide) (fun c_1 => ?_) (fun c_1 => ?_)
  · replace hf := if_t c_1 hf
    refine lv_iconst (v := 0) hx hb dX1_tidesHappen_19 (by decide) ?_
    exact hend ((0 : Int32), h) H locs _ _ hf hP hS dX1_tidesHappen_20
  · replace hf := if_f c_1 hf
    refine lv_iload_n hx hb dX1_tidesHappen_5 rfl (lv_at hl 0 rfl) ?_
    refine lv_bipush (v := 60) hx hb dX1_tidesHappen_6 (by decide +kernel) ?_
    refine lv_icmp_gt (tgt := 19) hx hb dX1_tidesHappen_8 (by decide) (fun c_2 => ?_) (fun c_2 => ?_)
    · replace hf := if_t c_2 hf
      refine lv_iconst (v := 0) hx hb dX1_tidesHappen_19 (by decide) ?_
      exact hend ((0 : Int32), h) H locs _ _ hf hP hS dX1_tidesHappen_20
    · replace hf := if_f c_2 hf
      refine lv_aload_n hx hb dX1_tidesHappen_11 rfl (lv_at hl 1 rfl) ?_
      refine lv_iload_n hx hb dX1_tidesHappen_12 rfl (lv_at hl 0 rfl) ?_
      obtain ⟨a_3, ha_3, hf⟩ := bd_e hf
      refine Ct.callV (As := [.int p1]) (rest := []) (st1 := [.int a_3]) (c_X0_hasTidesLeft l D cI A h p1 a_3 ha_3) hx hb hml hown hts (cwV 1 hts gX1_tidesHappen_X0_hasTidesLeft rfl rfl rfl hd_X0_hasTidesLeft ⟨Nat.le_of_ble_eq_true rfl, Nat.le_of_ble_eq_true rfl⟩) (va_recv hK hP (ci := 0) (q0 := 0) rfl cH_at0) (Ln.id rfl) hA hK hP hD hS rfl hl.1 rfl rfl (Nat.le_of_ble_eq_true rfl) dX1_tidesHappen_13 (fun H locs hP hD hS => ?_)
      refine lv_if_ne (tgt := 21) hx hb dX1_tidesHappen_16 (by decide) (fun c_4 => ?_) (fun c_4 => ?_)
      · replace hf := if_f c_4 hf
        refine lv_aload_n hx hb dX1_tidesHappen_21 rfl (lv_at hl 1 rfl) ?_
        refine lv_iload_n hx hb dX1_tidesHappen_22 rfl (lv_at hl 0 rfl) ?_
        obtain ⟨a_5, ha_5, hf⟩ := bd_e hf
        refine Ct.callV (As := [.int p1]) (rest := []) (st1 := []) (c_X0_passTides l D cI A h p1 a_5 ha_5) hx hb hml hown hts (cwV 1 hts gX1_tidesHappen_X0_passTides rfl rfl rfl hd_X0_passTides ⟨Nat.le_of_ble_eq_true rfl, Nat.le_of_ble_eq_true rfl⟩) (va_recv hK hP (ci := 0) (q0 := 0) rfl cH_at0) (Ln.id rfl) hA hK hP hD hS rfl hl.1 rfl rfl (Nat.le_of_ble_eq_true rfl) dX1_tidesHappen_23 (fun H locs hP hD hS => ?_)
        replace hP : va_P D vwCl (cH cI A a_5) H := hP
        replace hD : va_D AA (cH cI A a_5) := hD
        refine lv_iconst (v := 1) hx hb dX1_tidesHappen_26 (by decide) ?_
        exact hend ((1 : Int32), a_5) H locs _ _ hf hP hS dX1_tidesHappen_27
      · replace hf := if_t c_4 hf
        refine lv_iconst (v := 0) hx hb dX1_tidesHappen_19 (by decide) ?_
        exact hend ((0 : Int32), h) H locs _ _ hf hP hS dX1_tidesHappen_20

def f_X1_happens (g : St) (h : St) (p1 : Int32) : Option (Int32 × St) := fzp (bd (f_X1_digit g (p1 + (1 : Int32))) fun a_1 => (bd (f_X1_digit g (p1 + (2 : Int32))) fun a_2 => (bd (f_X1_signAt g p1) fun a_3 => (if a_3 = 98 then (bd (f_X1_boardingHappens h a_1 a_2) fun a_5 => (some (a_5.1, a_5.2))) else (if a_3 = 109 then (bd (f_X1_signAt g (p1 + (1 : Int32))) fun a_7 => (bd (f_X1_kindOf a_7) fun a_8 => (bd (f_X1_digit g (p1 + (3 : Int32))) fun a_9 => (bd (f_X1_digit g (p1 + (4 : Int32))) fun a_10 => (bd (f_X0_addMan h a_8 a_2 a_9 a_10) fun a_11 => (some (a_11.1, a_11.2))))))) else (if a_3 = 115 then (bd (f_X0_addShip h a_1) fun a_13 => (some (a_13.1, a_13.2))) else (if a_3 = 116 then (bd (f_X0_canTell h a_1) fun a_15 => (if a_15 = 0 then (some ((0 : Int32), h)) else (bd (f_X0_word h a_1) fun a_17 => (if a_17.1 < 0 then (some ((0 : Int32), a_17.2)) else (some ((1 : Int32), a_17.2)))))) else (if a_3 = 118 then (bd (f_X1_sinsHappen h a_1 a_2) fun a_20 => (some (a_20.1, a_20.2))) else (if a_3 = 119 then (bd (f_X1_tidesHappen h (((10 : Int32) * a_1) + a_2)) fun a_22 => (some (a_22.1, a_22.2))) else (some ((0 : Int32), h)))))))))))
def rm_X1_happens : Room := { frames := 4, cells := 0, slots := 0, locals := 140 }
theorem hd_X1_happens : yX1_happens.cls = RX1 ∧ yX1_happens.cls ≠ "java/lang/invoke/MethodHandle" ∧ yX1_happens.cls ≠ "java/lang/invoke/VarHandle" ∧ (parseMethodDescriptor yX1_happens.desc).map (fun d => d.parameters.length) = some 2 := by decide +kernel
set_option maxRecDepth 100000 in
set_option maxHeartbeats 4000000 in
theorem c_X1_happens (l : Launch) (D : va_G) (cI : ClassId) (A B : Nat → Nat) (g : St) (h : St) (p1 : Int32) (r : Int32 × St) (hf : f_X1_happens g h p1 = some r) : Ct l yX1_happens wsX1_happens rm_X1_happens D cI (cGH cI A B g h) (cGH cI A B g r.2) [.ref (A 0), .int p1, .ref (B 0)] (some (.int r.1)) := by
  unfold f_X1_happens at hf
  obtain ⟨hz, hf⟩ := fzp_e hf
  refine Ct.ofZ hz (cc := cX1_happens) (maxL := 5) (by decide +kernel) rfl (Nat.le_of_ble_eq_true rfl) ?_
  intro p e s m args below meth c AA Q H locs ls hx hb hml hown hts hA hK hP hD hS hl hend0
  have hend : ∀ (r1 : Int32 × St) (H : Heap) (locs : List Loc) (pc : Nat) (ls : Array Slot), some r1 = some r → va_P D vwCl (cGH cI A B g r1.2) H → va_S AA s.heap H locs → decode cX1_happens pc = .ok (.ireturn, 1) → W p l e rm_X1_happens s m args below meth c H locs 0 0 Q (F0 m pc ls [.int r1.1]) := by
    intro r1 H locs pc ls e1 hP hS hd; cases e1; exact hend0 H locs pc ls hP hS hd
  clear hend0
  replace hl : lv_has ls 5 [(0, .ref (A 0)), (1, .int p1), (2, .ref (B 0))] := hl
  refine lv_aload_n hx hb dX1_happens_0 rfl (lv_at hl 0 rfl) ?_
  refine lv_iload_n hx hb dX1_happens_1 rfl (lv_at hl 1 rfl) ?_
  refine lv_iconst (v := 1) hx hb dX1_happens_2 (by decide) ?_
  refine lv_iadd hx hb dX1_happens_3 ?_
  obtain ⟨a_1, ha_1, hf⟩ := bd_e hf
  refine Ct.callV (As := [.int (p1 + (1 : Int32))]) (rest := []) (st1 := [.int a_1]) (c_X1_digit l D cI A g (p1 + (1 : Int32)) a_1 ha_1) hx hb hml hown hts (cwV 1 hts gX1_happens_X1_digit rfl rfl rfl hd_X1_digit ⟨Nat.le_of_ble_eq_true rfl, Nat.le_of_ble_eq_true rfl⟩) (va_recv hK hP (ci := 1) (q0 := 0) rfl cGH_at0) ln_GH_G hA hK hP hD hS rfl hl.1 rfl rfl (Nat.le_of_ble_eq_true rfl) dX1_happens_4 (fun H locs hP hD hS => ?_)
  refine lv_istore_n (lv' := [(3, .int a_1), (0, .ref (A 0)), (1, .int p1), (2, .ref (B 0))]) hx hb dX1_happens_7 rfl hl (by decide) rfl (fun ls hl => ?_)
  refine lv_aload_n hx hb dX1_happens_8 rfl (lv_at hl 1 rfl) ?_
  refine lv_iload_n hx hb dX1_happens_9 rfl (lv_at hl 2 rfl) ?_
  refine lv_iconst (v := 2) hx hb dX1_happens_10 (by decide) ?_
  refine lv_iadd hx hb dX1_happens_11 ?_
  obtain ⟨a_2, ha_2, hf⟩ := bd_e hf
  refine Ct.callV (As := [.int (p1 + (2 : Int32))]) (rest := []) (st1 := [.int a_2]) (c_X1_digit l D cI A g (p1 + (2 : Int32)) a_2 ha_2) hx hb hml hown hts (cwV 1 hts gX1_happens_X1_digit rfl rfl rfl hd_X1_digit ⟨Nat.le_of_ble_eq_true rfl, Nat.le_of_ble_eq_true rfl⟩) (va_recv hK hP (ci := 1) (q0 := 0) rfl cGH_at0) ln_GH_G hA hK hP hD hS rfl hl.1 rfl rfl (Nat.le_of_ble_eq_true rfl) dX1_happens_12 (fun H locs hP hD hS => ?_)
  refine lv_istore (lv' := [(4, .int a_2), (3, .int a_1), (0, .ref (A 0)), (1, .int p1), (2, .ref (B 0))]) hx hb dX1_happens_15 hl (by decide) rfl (fun ls hl => ?_)
  refine lv_aload_n hx hb dX1_happens_17 rfl (lv_at hl 2 rfl) ?_
  refine lv_iload_n hx hb dX1_happens_18 rfl (lv_at hl 3 rfl) ?_
  obtain ⟨a_3, ha_3, hf⟩ := bd_e hf
  refine Ct.callV (As := [.int p1]) (rest := []) (st1 := [.int a_3]) (c_X1_signAt l D cI A g p1 a_3 ha_3) hx hb hml hown hts (cwV 1 hts gX1_happens_X1_signAt rfl rfl rfl hd_X1_signAt ⟨Nat.le_of_ble_eq_true rfl, Nat.le_of_ble_eq_true rfl⟩) (va_recv hK hP (ci := 1) (q0 := 0) rfl cGH_at0) ln_GH_G hA hK hP hD hS rfl hl.1 rfl rfl (Nat.le_of_ble_eq_true rfl) dX1_happens_19 (fun H locs hP hD hS => ?_)
  by_cases c_4 : a_3 = 98
  · replace hf := if_t c_4 hf
    refine lv_lookup (off := 117) (tgt := 139) hx hb dX1_happens_22 (by decide) (by rw [c_4]; decide +kernel) (by decide) ?_
    refine lv_iload_n hx hb dX1_happens_139 rfl (lv_at hl 1 rfl) ?_
    refine lv_iload hx hb dX1_happens_140 (lv_at hl 0 rfl) ?_
    refine lv_aload_n hx hb dX1_happens_142 rfl (lv_at hl 4 rfl) ?_
    obtain ⟨a_5, ha_5, hf⟩ := bd_e hf
    refine Ct.callS (As := [.int a_1, .int a_2, .ref (B 0)]) (rest := []) (st1 := [.int a_5.1]) (c_X1_boardingHappens l D cI B h a_1 a_2 a_5 ha_5) hx hb hml hown hts (va_cwS 3 hts gX1_happens_X1_boardingHappens rfl rfl rfl hd_X1_boardingHappens ⟨Nat.le_of_ble_eq_true rfl, Nat.le_of_ble_eq_true rfl⟩) ln_GH_H hA hK hP hD hS rfl hl.1 rfl rfl (Nat.le_of_ble_eq_true rfl) dX1_happens_143 (fun H locs hP hD hS => ?_)
    replace hP : va_P D vwCl (cGH cI A B g a_5.2) H := hP
    replace hD : va_D AA (cGH cI A B g a_5.2) := hD
    exact hend (a_5.1, a_5.2) H locs _ _ hf hP hS dX1_happens_146
  · replace hf := if_f c_4 hf
    by_cases c_6 : a_3 = 109
    · replace hf := if_t c_6 hf
      refine lv_lookup (off := 64) (tgt := 86) hx hb dX1_happens_22 (by decide) (by rw [c_6]; decide +kernel) (by decide) ?_
      refine lv_aload_n hx hb dX1_happens_86 rfl (lv_at hl 4 rfl) ?_
      refine lv_aload_n hx hb dX1_happens_87 rfl (lv_at hl 2 rfl) ?_
      refine lv_iload_n hx hb dX1_happens_88 rfl (lv_at hl 3 rfl) ?_
      refine lv_iconst (v := 1) hx hb dX1_happens_89 (by decide) ?_
      refine lv_iadd hx hb dX1_happens_90 ?_
      obtain ⟨a_7, ha_7, hf⟩ := bd_e hf
      refine Ct.callV (As := [.int (p1 + (1 : Int32))]) (rest := [.ref (B 0)]) (st1 := [.int a_7, .ref (B 0)]) (c_X1_signAt l D cI A g (p1 + (1 : Int32)) a_7 ha_7) hx hb hml hown hts (cwV 1 hts gX1_happens_X1_signAt rfl rfl rfl hd_X1_signAt ⟨Nat.le_of_ble_eq_true rfl, Nat.le_of_ble_eq_true rfl⟩) (va_recv hK hP (ci := 1) (q0 := 0) rfl cGH_at0) ln_GH_G hA hK hP hD hS rfl hl.1 rfl rfl (Nat.le_of_ble_eq_true rfl) dX1_happens_91 (fun H locs hP hD hS => ?_)
      obtain ⟨a_8, ha_8, hf⟩ := bd_e hf
      refine Ct.callS (As := [.int a_7]) (rest := [.ref (B 0)]) (st1 := [.int a_8, .ref (B 0)]) (c_X1_kindOf l D cI  a_7 a_8 ha_8) hx hb hml hown hts (va_cwS 1 hts gX1_happens_X1_kindOf rfl rfl rfl hd_X1_kindOf ⟨Nat.le_of_ble_eq_true rfl, Nat.le_of_ble_eq_true rfl⟩) Ln.nil hA hK hP hD hS rfl hl.1 rfl rfl (Nat.le_of_ble_eq_true rfl) dX1_happens_94 (fun H locs hP hD hS => ?_)
      refine lv_iload hx hb dX1_happens_97 (lv_at hl 0 rfl) ?_
      refine lv_aload_n hx hb dX1_happens_99 rfl (lv_at hl 2 rfl) ?_
      refine lv_iload_n hx hb dX1_happens_100 rfl (lv_at hl 3 rfl) ?_
      refine lv_iconst (v := 3) hx hb dX1_happens_101 (by decide) ?_
      refine lv_iadd hx hb dX1_happens_102 ?_
      obtain ⟨a_9, ha_9, hf⟩ := bd_e hf
      refine Ct.callV (As := [.int (p1 + (3 : Int32))]) (rest := [.int a_2, .int a_8, .ref (B 0)]) (st1 := [.int a_9, .int a_2, .int a_8, .ref (B 0)]) (c_X1_digit l D cI A g (p1 + (3 : Int32)) a_9 ha_9) hx hb hml hown hts (cwV 1 hts gX1_happens_X1_digit rfl rfl rfl hd_X1_digit ⟨Nat.le_of_ble_eq_true rfl, Nat.le_of_ble_eq_true rfl⟩) (va_recv hK hP (ci := 1) (q0 := 0) rfl cGH_at0) ln_GH_G hA hK hP hD hS rfl hl.1 rfl rfl (Nat.le_of_ble_eq_true rfl) dX1_happens_103 (fun H locs hP hD hS => ?_)
      refine lv_aload_n hx hb dX1_happens_106 rfl (lv_at hl 2 rfl) ?_
      refine lv_iload_n hx hb dX1_happens_107 rfl (lv_at hl 3 rfl) ?_
      refine lv_iconst (v := 4) hx hb dX1_happens_108 (by decide) ?_
      refine lv_iadd hx hb dX1_happens_109 ?_
      obtain ⟨a_10, ha_10, hf⟩ := bd_e hf
      refine Ct.callV (As := [.int (p1 + (4 : Int32))]) (rest := [.int a_9, .int a_2, .int a_8, .ref (B 0)]) (st1 := [.int a_10, .int a_9, .int a_2, .int a_8, .ref (B 0)]) (c_X1_digit l D cI A g (p1 + (4 : Int32)) a_10 ha_10) hx hb hml hown hts (cwV 1 hts gX1_happens_X1_digit rfl rfl rfl hd_X1_digit ⟨Nat.le_of_ble_eq_true rfl, Nat.le_of_ble_eq_true rfl⟩) (va_recv hK hP (ci := 1) (q0 := 0) rfl cGH_at0) ln_GH_G hA hK hP hD hS rfl hl.1 rfl rfl (Nat.le_of_ble_eq_true rfl) dX1_happens_110 (fun H locs hP hD hS => ?_)
      obtain ⟨a_11, ha_11, hf⟩ := bd_e hf
      refine Ct.callV (As := [.int a_8, .int a_2, .int a_9, .int a_10]) (rest := []) (st1 := [.int a_11.1]) (c_X0_addMan l D cI B h a_8 a_2 a_9 a_10 a_11 ha_11) hx hb hml hown hts (cwV 4 hts gX1_happens_X0_addMan rfl rfl rfl hd_X0_addMan ⟨Nat.le_of_ble_eq_true rfl, Nat.le_of_ble_eq_true rfl⟩) (va_recv hK hP (ci := 0) (q0 := 2) rfl cGH_at2) ln_GH_H hA hK hP hD hS rfl hl.1 rfl rfl (Nat.le_of_ble_eq_true rfl) dX1_happens_113 (fun H locs hP hD hS => ?_)
      replace hP : va_P D vwCl (cGH cI A B g a_11.2) H := hP
      replace hD : va_D AA (cGH cI A B g a_11.2) := hD
      exact hend (a_11.1, a_11.2) H locs _ _ hf hP hS dX1_happens_116
    · replace hf := if_f c_6 hf
      by_cases c_12 : a_3 = 115
      · replace hf := if_t c_12 hf
        refine lv_lookup (off := 58) (tgt := 80) hx hb dX1_happens_22 (by decide) (by rw [c_12]; decide +kernel) (by decide) ?_
        refine lv_aload_n hx hb dX1_happens_80 rfl (lv_at hl 4 rfl) ?_
        refine lv_iload_n hx hb dX1_happens_81 rfl (lv_at hl 1 rfl) ?_
        obtain ⟨a_13, ha_13, hf⟩ := bd_e hf
        refine Ct.callV (As := [.int a_1]) (rest := []) (st1 := [.int a_13.1]) (c_X0_addShip l D cI B h a_1 a_13 ha_13) hx hb hml hown hts (cwV 1 hts gX1_happens_X0_addShip rfl rfl rfl hd_X0_addShip ⟨Nat.le_of_ble_eq_true rfl, Nat.le_of_ble_eq_true rfl⟩) (va_recv hK hP (ci := 0) (q0 := 2) rfl cGH_at2) ln_GH_H hA hK hP hD hS rfl hl.1 rfl rfl (Nat.le_of_ble_eq_true rfl) dX1_happens_82 (fun H locs hP hD hS => ?_)
        replace hP : va_P D vwCl (cGH cI A B g a_13.2) H := hP
        replace hD : va_D AA (cGH cI A B g a_13.2) := hD
        exact hend (a_13.1, a_13.2) H locs _ _ hf hP hS dX1_happens_85
      · replace hf := if_f c_12 hf
        by_cases c_14 : a_3 = 116
        · replace hf := if_t c_14 hf
          refine lv_lookup (off := 95) (tgt := 117) hx hb dX1_happens_22 (by decide) (by rw [c_14]; decide +kernel) (by decide) ?_
          refine lv_aload_n hx hb dX1_happens_117 rfl (lv_at hl 4 rfl) ?_
          refine lv_iload_n hx hb dX1_happens_118 rfl (lv_at hl 1 rfl) ?_
          obtain ⟨a_15, ha_15, hf⟩ := bd_e hf
          refine Ct.callV (As := [.int a_1]) (rest := []) (st1 := [.int a_15]) (c_X0_canTell l D cI B h a_1 a_15 ha_15) hx hb hml hown hts (cwV 1 hts gX1_happens_X0_canTell rfl rfl rfl hd_X0_canTell ⟨Nat.le_of_ble_eq_true rfl, Nat.le_of_ble_eq_true rfl⟩) (va_recv hK hP (ci := 0) (q0 := 2) rfl cGH_at2) ln_GH_H hA hK hP hD hS rfl hl.1 rfl rfl (Nat.le_of_ble_eq_true rfl) dX1_happens_119 (fun H locs hP hD hS => ?_)
          refine lv_if_eq (tgt := 137) hx hb dX1_happens_122 (by decide) (fun c_16 => ?_) (fun c_16 => ?_)
          · replace hf := if_t c_16 hf
            refine lv_iconst (v := 0) hx hb dX1_happens_137 (by decide) ?_
            exact hend ((0 : Int32), h) H locs _ _ hf hP hS dX1_happens_138
          · replace hf := if_f c_16 hf
            refine lv_aload_n hx hb dX1_happens_125 rfl (lv_at hl 4 rfl) ?_
            refine lv_iload_n hx hb dX1_happens_126 rfl (lv_at hl 1 rfl) ?_
            obtain ⟨a_17, ha_17, hf⟩ := bd_e hf
            refine Ct.callV (As := [.int a_1]) (rest := []) (st1 := [.int a_17.1]) (c_X0_word l D cI B h a_1 a_17 ha_17) hx hb hml hown hts (cwV 1 hts gX1_happens_X0_word rfl rfl rfl hd_X0_word ⟨Nat.le_of_ble_eq_true rfl, Nat.le_of_ble_eq_true rfl⟩) (va_recv hK hP (ci := 0) (q0 := 2) rfl cGH_at2) ln_GH_H hA hK hP hD hS rfl hl.1 rfl rfl (Nat.le_of_ble_eq_true rfl) dX1_happens_127 (fun H locs hP hD hS => ?_)
            replace hP : va_P D vwCl (cGH cI A B g a_17.2) H := hP
            replace hD : va_D AA (cGH cI A B g a_17.2) := hD
            refine lv_if_lt (tgt := 137) hx hb dX1_happens_130 (by decide) (fun c_18 => ?_) (fun c_18 => ?_)
            · replace hf := if_t c_18 hf
              refine lv_iconst (v := 0) hx hb dX1_happens_137 (by decide) ?_
              exact hend ((0 : Int32), a_17.2) H locs _ _ hf hP hS dX1_happens_138
            · replace hf := if_f c_18 hf
              refine lv_iconst (v := 1) hx hb dX1_happens_133 (by decide) ?_
              refine lv_goto (tgt := 138) hx hb dX1_happens_134 (by decide) ?_
              exact hend ((1 : Int32), a_17.2) H locs _ _ hf hP hS dX1_happens_138
        · replace hf := if_f c_14 hf
          by_cases c_19 : a_3 = 118
          · replace hf := if_t c_19 hf
            refine lv_lookup (off := 125) (tgt := 147) hx hb dX1_happens_22 (by decide) (by rw [c_19]; decide +kernel) (by decide) ?_
            refine lv_iload_n hx hb dX1_happens_147 rfl (lv_at hl 1 rfl) ?_
            refine lv_iload hx hb dX1_happens_148 (lv_at hl 0 rfl) ?_
            refine lv_aload_n hx hb dX1_happens_150 rfl (lv_at hl 4 rfl) ?_
            obtain ⟨a_20, ha_20, hf⟩ := bd_e hf
            refine Ct.callS (As := [.int a_1, .int a_2, .ref (B 0)]) (rest := []) (st1 := [.int a_20.1]) (c_X1_sinsHappen l D cI B h a_1 a_2 a_20 ha_20) hx hb hml hown hts (va_cwS 3 hts gX1_happens_X1_sinsHappen rfl rfl rfl hd_X1_sinsHappen ⟨Nat.le_of_ble_eq_true rfl, Nat.le_of_ble_eq_true rfl⟩) ln_GH_H hA hK hP hD hS rfl hl.1 rfl rfl (Nat.le_of_ble_eq_true rfl) dX1_happens_151 (fun H locs hP hD hS => ?_)
            replace hP : va_P D vwCl (cGH cI A B g a_20.2) H := hP
            replace hD : va_D AA (cGH cI A B g a_20.2) := hD
            exact hend (a_20.1, a_20.2) H locs _ _ hf hP hS dX1_happens_154
          · replace hf := if_f c_19 hf
            by_cases c_21 : a_3 = 119
            · replace hf := if_t c_21 hf
              refine lv_lookup (off := 133) (tgt := 155) hx hb dX1_happens_22 (by decide) (by rw [c_21]; decide +kernel) (by decide) ?_
              refine lv_bipush (v := 10) hx hb dX1_happens_155 (by decide +kernel) ?_
              refine lv_iload_n hx hb dX1_happens_157 rfl (lv_at hl 1 rfl) ?_
              refine lv_imul hx hb dX1_happens_158 ?_
              refine lv_iload hx hb dX1_happens_159 (lv_at hl 0 rfl) ?_
              refine lv_iadd hx hb dX1_happens_161 ?_
              refine lv_aload_n hx hb dX1_happens_162 rfl (lv_at hl 4 rfl) ?_
              obtain ⟨a_22, ha_22, hf⟩ := bd_e hf
              refine Ct.callS (As := [.int (((10 : Int32) * a_1) + a_2), .ref (B 0)]) (rest := []) (st1 := [.int a_22.1]) (c_X1_tidesHappen l D cI B h (((10 : Int32) * a_1) + a_2) a_22 ha_22) hx hb hml hown hts (va_cwS 2 hts gX1_happens_X1_tidesHappen rfl rfl rfl hd_X1_tidesHappen ⟨Nat.le_of_ble_eq_true rfl, Nat.le_of_ble_eq_true rfl⟩) ln_GH_H hA hK hP hD hS rfl hl.1 rfl rfl (Nat.le_of_ble_eq_true rfl) dX1_happens_163 (fun H locs hP hD hS => ?_)
              replace hP : va_P D vwCl (cGH cI A B g a_22.2) H := hP
              replace hD : va_D AA (cGH cI A B g a_22.2) := hD
              exact hend (a_22.1, a_22.2) H locs _ _ hf hP hS dX1_happens_166
            · replace hf := if_f c_21 hf
              refine lv_lookup (off := 145) (tgt := 167) hx hb dX1_happens_22 (by decide) (by show Op.lookupswitch.offset [(98, 117), (109, 64), (115, 58), (116, 95), (118, 125), (119, 133)] 145 _ = _; rw [lv_osw c_4 (by decide +kernel), lv_osw c_6 (by decide +kernel), lv_osw c_12 (by decide +kernel), lv_osw c_14 (by decide +kernel), lv_osw c_19 (by decide +kernel), lv_osw c_21 (by decide +kernel)]; rfl) (by decide) ?_
              refine lv_iconst (v := 0) hx hb dX1_happens_167 (by decide) ?_
              exact hend ((0 : Int32), h) H locs _ _ hf hP hS dX1_happens_168
