def rm_X4_mean : Room := { frames := 2, cells := 0, slots := 0, locals := 52 }
theorem hd_X4_mean : yX4_mean.cls = RX4 ∧ yX4_mean.cls ≠ "java/lang/invoke/MethodHandle" ∧ yX4_mean.cls ≠ "java/lang/invoke/VarHandle" ∧ (parseMethodDescriptor yX4_mean.desc).map (fun d => d.parameters.length) = some 1 := by decide +kernel
set_option maxRecDepth 100000 in
set_option maxHeartbeats 4000000 in
theorem c_X4_mean (l : Launch) (D : va_G) (cI : ClassId) (A : Nat → Nat) (n : St) (t : St) (k : St) (g : St) (w : St) (z : St) (q : St) (p1 : Int32) (r : Int64 × St) (hf : f_X4_mean n t k g w z q p1 = some r) : Ct l yX4_mean wsX4_mean rm_X4_mean D cI (cX cI A n t k g w z q) (cX cI A n t k g w z r.2) [.ref (A 0), .int p1] (some (.long r.1)) := by
  unfold f_X4_mean at hf
  refine Ct.ofL (cc := cX4_mean) (maxL := 2) (by decide +kernel) rfl (Nat.le_of_ble_eq_true rfl) ?_
  intro p e s m args below meth c AA Q H locs ls hx hb hml hown hts hA hK hP hD hS hl hend0
  have hend : ∀ (r1 : Int64 × St) (H : Heap) (locs : List Loc) (pc : Nat) (ls : Array Slot), some r1 = some r → va_P D vwCl (cX cI A n t k g w z r1.2) H → va_S AA s.heap H locs → decode cX4_mean pc = .ok (.lreturn, 1) → W p l e rm_X4_mean s m args below meth c H locs 0 0 Q (F0 m pc ls [.long r1.1]) := by
    intro r1 H locs pc ls e1 hP hS hd; cases e1; exact hend0 H locs pc ls hP hS hd
  clear hend0
  have hw0 : ∀ w ∈ wsX00, w ∈ wsX4_mean := by decide +kernel
  have hw4 : ∀ w ∈ wsX40, w ∈ wsX4_mean := by decide +kernel
  have k10 := hts (.fieldLink RX4 10 "AnchorsForConfession" "now" "LAnchorsForConfession$Harbour;") (by decide +kernel)
  have k155 := hts (.fieldLink RX4 155 "AnchorsForConfession$Harbour" "men" "I") (by decide +kernel)
  have kc193 := hts (.constantLong RX4 193 4000000000000000000) (by decide +kernel)
  have km180 := hts (.methodLink RX4 180 Lib.Math.max.name) (by decide +kernel)
  have ks180 := hts (.static Lib.Math.max.name) (by decide +kernel)
  have ki180 := hts (.initialized "java/lang/Math") (by decide +kernel)
  have kk180 := hts (.code Lib.Math.max.name Lib.Math.max.code 2 (some .int)) (by decide +kernel)
  replace hl : lv_has ls 2 [(0, .ref (A 0)), (1, .int p1)] := hl
  refine lv_iload_n hx hb dX4_mean_0 rfl (lv_at hl 1 rfl) ?_
  refine lv_if_eq (tgt := 21) hx hb dX4_mean_1 (by decide) (fun c_1 => ?_) (fun c_1 => ?_)
  · replace hf := if_t c_1 hf
    refine lv_aload_n hx hb dX4_mean_21 rfl (lv_at hl 0 rfl) ?_
    refine va_get (D := D) (ci := 4) (v := .ref (A 1)) (C := RX4) (T := TX4) (N := 8) hx hb hts hw4 hown hK hP 0 cX_at0 rfl 0 (by decide) k10 (fun _ h9 => h9) rfl dX4_mean_22 ?_
    obtain ⟨a_2, ha_2, hf⟩ := bd_e hf
    refine Ct.callV (As := []) (rest := []) (st1 := [.int a_2]) (c_X0_allSins l D cI (fun j => A (1 + j)) n a_2 ha_2) hx hb hml hown hts (cwV 0 hts gX4_mean_X0_allSins rfl rfl rfl hd_X0_allSins ⟨Nat.le_of_ble_eq_true rfl, Nat.le_of_ble_eq_true rfl⟩) (va_recv hK hP (ci := 0) (q0 := 1) rfl cX_at1) ln_X_H_n hA hK hP hD hS rfl hl.1 rfl rfl (Nat.le_of_ble_eq_true rfl) dX4_mean_25 (fun H locs hP hD hS => ?_)
    refine lv_i2l (v := (a_2).toInt64) hx hb dX4_mean_28 rfl ?_
    refine lv_iconst (v := 1) hx hb dX4_mean_29 (by decide) ?_
    refine lv_aload_n hx hb dX4_mean_30 rfl (lv_at hl 0 rfl) ?_
    refine va_get (D := D) (ci := 4) (v := .ref (A 1)) (C := RX4) (T := TX4) (N := 8) hx hb hts hw4 hown hK hP 0 cX_at0 rfl 0 (by decide) k10 (fun _ h9 => h9) rfl dX4_mean_31 ?_
    refine va_get (D := D) (ci := 0) (v := .int (n 16 1)) (C := RX0) (T := TX0) (N := 12) hx hb hts hw0 hown hK hP 1 cX_at1 rfl 4 (by decide) k155 (fun _ h9 => h9) rfl dX4_mean_34 ?_
    refine va_mmax hx hb (by rw [hml]; exact hl.1.symm) hown km180 ks180 ki180 kk180 (Nat.le_of_ble_eq_true rfl) (Nat.le_of_ble_eq_true rfl) (Nat.zero_le _) (Nat.zero_le _) dX4_mean_37 ?_
    refine lv_i2l (v := ((if (1 : Int32) < (n 16 1) then (n 16 1) else (1 : Int32))).toInt64) hx hb dX4_mean_40 rfl ?_
    refine lv_iload_n hx hb dX4_mean_41 rfl (lv_at hl 1 rfl) ?_
    obtain ⟨a_3, ha_3, hf⟩ := bd_e hf
    refine Ct.callS (As := [.long (a_2).toInt64, .long ((if (1 : Int32) < (n 16 1) then (n 16 1) else (1 : Int32))).toInt64, .int p1]) (rest := []) (st1 := [.long a_3]) (c_X4_fraction l D cI  (a_2).toInt64 ((if (1 : Int32) < (n 16 1) then (n 16 1) else (1 : Int32))).toInt64 p1 a_3 ha_3) hx hb hml hown hts (va_cwS 3 hts gX4_mean_X4_fraction rfl rfl rfl hd_X4_fraction ⟨Nat.le_of_ble_eq_true rfl, Nat.le_of_ble_eq_true rfl⟩) Ln.nil hA hK hP hD hS rfl hl.1 rfl rfl (Nat.le_of_ble_eq_true rfl) dX4_mean_42 (fun H locs hP hD hS => ?_)
    exact hend (a_3, q) H locs _ _ hf hP hS dX4_mean_45
  · replace hf := if_f c_1 hf
    refine lv_iload_n hx hb dX4_mean_4 rfl (lv_at hl 1 rfl) ?_
    refine lv_iconst (v := 1) hx hb dX4_mean_5 (by decide) ?_
    refine lv_icmp_eq (tgt := 21) hx hb dX4_mean_6 (by decide) (fun c_4 => ?_) (fun c_4 => ?_)
    · replace hf := if_t c_4 hf
      refine lv_aload_n hx hb dX4_mean_21 rfl (lv_at hl 0 rfl) ?_
      refine va_get (D := D) (ci := 4) (v := .ref (A 1)) (C := RX4) (T := TX4) (N := 8) hx hb hts hw4 hown hK hP 0 cX_at0 rfl 0 (by decide) k10 (fun _ h9 => h9) rfl dX4_mean_22 ?_
      obtain ⟨a_5, ha_5, hf⟩ := bd_e hf
      refine Ct.callV (As := []) (rest := []) (st1 := [.int a_5]) (c_X0_allSins l D cI (fun j => A (1 + j)) n a_5 ha_5) hx hb hml hown hts (cwV 0 hts gX4_mean_X0_allSins rfl rfl rfl hd_X0_allSins ⟨Nat.le_of_ble_eq_true rfl, Nat.le_of_ble_eq_true rfl⟩) (va_recv hK hP (ci := 0) (q0 := 1) rfl cX_at1) ln_X_H_n hA hK hP hD hS rfl hl.1 rfl rfl (Nat.le_of_ble_eq_true rfl) dX4_mean_25 (fun H locs hP hD hS => ?_)
      refine lv_i2l (v := (a_5).toInt64) hx hb dX4_mean_28 rfl ?_
      refine lv_iconst (v := 1) hx hb dX4_mean_29 (by decide) ?_
      refine lv_aload_n hx hb dX4_mean_30 rfl (lv_at hl 0 rfl) ?_
      refine va_get (D := D) (ci := 4) (v := .ref (A 1)) (C := RX4) (T := TX4) (N := 8) hx hb hts hw4 hown hK hP 0 cX_at0 rfl 0 (by decide) k10 (fun _ h9 => h9) rfl dX4_mean_31 ?_
      refine va_get (D := D) (ci := 0) (v := .int (n 16 1)) (C := RX0) (T := TX0) (N := 12) hx hb hts hw0 hown hK hP 1 cX_at1 rfl 4 (by decide) k155 (fun _ h9 => h9) rfl dX4_mean_34 ?_
      refine va_mmax hx hb (by rw [hml]; exact hl.1.symm) hown km180 ks180 ki180 kk180 (Nat.le_of_ble_eq_true rfl) (Nat.le_of_ble_eq_true rfl) (Nat.zero_le _) (Nat.zero_le _) dX4_mean_37 ?_
      refine lv_i2l (v := ((if (1 : Int32) < (n 16 1) then (n 16 1) else (1 : Int32))).toInt64) hx hb dX4_mean_40 rfl ?_
      refine lv_iload_n hx hb dX4_mean_41 rfl (lv_at hl 1 rfl) ?_
      obtain ⟨a_6, ha_6, hf⟩ := bd_e hf
      refine Ct.callS (As := [.long (a_5).toInt64, .long ((if (1 : Int32) < (n 16 1) then (n 16 1) else (1 : Int32))).toInt64, .int p1]) (rest := []) (st1 := [.long a_6]) (c_X4_fraction l D cI  (a_5).toInt64 ((if (1 : Int32) < (n 16 1) then (n 16 1) else (1 : Int32))).toInt64 p1 a_6 ha_6) hx hb hml hown hts (va_cwS 3 hts gX4_mean_X4_fraction rfl rfl rfl hd_X4_fraction ⟨Nat.le_of_ble_eq_true rfl, Nat.le_of_ble_eq_true rfl⟩) Ln.nil hA hK hP hD hS rfl hl.1 rfl rfl (Nat.le_of_ble_eq_true rfl) dX4_mean_42 (fun H locs hP hD hS => ?_)
      exact hend (a_6, q) H locs _ _ hf hP hS dX4_mean_45
    · replace hf := if_f c_4 hf
      refine lv_ldc2 (v := 4000000000000000000) hx hb hown kc193 dX4_mean_9 ?_
      refine lv_aload_n hx hb dX4_mean_12 rfl (lv_at hl 0 rfl) ?_
      refine lv_bipush (v := -2) hx hb dX4_mean_13 (by decide +kernel) ?_
      obtain ⟨a_7, ha_7, hf⟩ := bd_e hf
      refine Ct.callV (As := [.int (-2 : Int32)]) (rest := [.long (4000000000000000000 : Int64)]) (st1 := [.int a_7.1, .long (4000000000000000000 : Int64)]) (c_X4_refused l D cI A n t k g w z q (-2 : Int32) a_7 ha_7) hx hb hml hown hts (cwV 1 hts gX4_mean_X4_refused rfl rfl rfl hd_X4_refused ⟨Nat.le_of_ble_eq_true rfl, Nat.le_of_ble_eq_true rfl⟩) (va_recv hK hP (ci := 4) (q0 := 0) rfl cX_at0) (Ln.id rfl) hA hK hP hD hS rfl hl.1 rfl rfl (Nat.le_of_ble_eq_true rfl) dX4_mean_15 (fun H locs hP hD hS => ?_)
      replace hP : va_P D vwCl (cX cI A n t k g w z a_7.2) H := hP
      replace hD : va_D AA (cX cI A n t k g w z a_7.2) := hD
      refine lv_i2l (v := (a_7.1).toInt64) hx hb dX4_mean_18 rfl ?_
      refine lv_lsub hx hb dX4_mean_19 ?_
      exact hend (((4000000000000000000 : Int64) - (a_7.1).toInt64), a_7.2) H locs _ _ hf hP hS dX4_mean_20

def rm_X4_rowTellsWordOf : Room := { frames := 4, cells := 0, slots := 0, locals := 89 }
theorem hd_X4_rowTellsWordOf : yX4_rowTellsWordOf.cls = RX4 ∧ yX4_rowTellsWordOf.cls ≠ "java/lang/invoke/MethodHandle" ∧ yX4_rowTellsWordOf.cls ≠ "java/lang/invoke/VarHandle" ∧ (parseMethodDescriptor yX4_rowTellsWordOf.desc).map (fun d => d.parameters.length) = some 1 := by decide +kernel
set_option maxRecDepth 100000 in
set_option maxHeartbeats 4000000 in
theorem c_X4_rowTellsWordOf (l : Launch) (D : va_G) (cI : ClassId) (A : Nat → Nat) (n : St) (t : St) (k : St) (g : St) (w : St) (z : St) (q : St) (p1 : Int32) (r : Int32 × St) (hf : f_X4_rowTellsWordOf n t k g w z q p1 = some r) : Ct l yX4_rowTellsWordOf wsX4_rowTellsWordOf rm_X4_rowTellsWordOf D cI (cX cI A n t k g w z q) (cX cI A n r.2 k g w z q) [.ref (A 0), .int p1] (some (.int r.1)) := by
  unfold f_X4_rowTellsWordOf at hf
  obtain ⟨hz, hf⟩ := fzp_e hf
  refine Ct.ofZ hz (cc := cX4_rowTellsWordOf) (maxL := 2) (by decide +kernel) rfl (Nat.le_of_ble_eq_true rfl) ?_
  intro p e s m args below meth c AA Q H locs ls hx hb hml hown hts hA hK hP hD hS hl hend0
  have hend : ∀ (r1 : Int32 × St) (H : Heap) (locs : List Loc) (pc : Nat) (ls : Array Slot), some r1 = some r → va_P D vwCl (cX cI A n r1.2 k g w z q) H → va_S AA s.heap H locs → decode cX4_rowTellsWordOf pc = .ok (.ireturn, 1) → W p l e rm_X4_rowTellsWordOf s m args below meth c H locs 0 0 Q (F0 m pc ls [.int r1.1]) := by
    intro r1 H locs pc ls e1 hP hS hd; cases e1; exact hend0 H locs pc ls hP hS hd
  clear hend0
  have hw4 : ∀ w ∈ wsX40, w ∈ wsX4_rowTellsWordOf := by decide +kernel
  have k16 := hts (.fieldLink RX4 16 "AnchorsForConfession" "thought" "LAnchorsForConfession$Harbour;") (by decide +kernel)
  have k32 := hts (.fieldLink RX4 32 "AnchorsForConfession" "told" "LAnchorsForConfession$Row;") (by decide +kernel)
  replace hl : lv_has ls 2 [(0, .ref (A 0)), (1, .int p1)] := hl
  refine lv_aload_n hx hb dX4_rowTellsWordOf_0 rfl (lv_at hl 0 rfl) ?_
  refine va_get (D := D) (ci := 4) (v := .ref (A 10)) (C := RX4) (T := TX4) (N := 8) hx hb hts hw4 hown hK hP 0 cX_at0 rfl 1 (by decide) k16 (fun _ h9 => h9) rfl dX4_rowTellsWordOf_1 ?_
  refine lv_iload_n hx hb dX4_rowTellsWordOf_4 rfl (lv_at hl 1 rfl) ?_
  obtain ⟨a_1, ha_1, hf⟩ := bd_e hf
  refine Ct.callV (As := [.int p1]) (rest := []) (st1 := [.int a_1]) (c_X0_canTell l D cI (fun j => A (10 + j)) t p1 a_1 ha_1) hx hb hml hown hts (cwV 1 hts gX4_rowTellsWordOf_X0_canTell rfl rfl rfl hd_X0_canTell ⟨Nat.le_of_ble_eq_true rfl, Nat.le_of_ble_eq_true rfl⟩) (va_recv hK hP (ci := 0) (q0 := 10) rfl cX_at10) ln_X_H_t hA hK hP hD hS rfl hl.1 rfl rfl (Nat.le_of_ble_eq_true rfl) dX4_rowTellsWordOf_5 (fun H locs hP hD hS => ?_)
  refine lv_if_ne (tgt := 13) hx hb dX4_rowTellsWordOf_8 (by decide) (fun c_2 => ?_) (fun c_2 => ?_)
  · replace hf := if_f c_2 hf
    refine lv_aload_n hx hb dX4_rowTellsWordOf_13 rfl (lv_at hl 0 rfl) ?_
    refine va_get (D := D) (ci := 4) (v := .ref (A 10)) (C := RX4) (T := TX4) (N := 8) hx hb hts hw4 hown hK hP 0 cX_at0 rfl 1 (by decide) k16 (fun _ h9 => h9) rfl dX4_rowTellsWordOf_14 ?_
    refine lv_iload_n hx hb dX4_rowTellsWordOf_17 rfl (lv_at hl 1 rfl) ?_
    obtain ⟨a_3, ha_3, hf⟩ := bd_e hf
    refine Ct.callV (As := [.int p1]) (rest := []) (st1 := [.int a_3.1]) (c_X0_word l D cI (fun j => A (10 + j)) t p1 a_3 ha_3) hx hb hml hown hts (cwV 1 hts gX4_rowTellsWordOf_X0_word rfl rfl rfl hd_X0_word ⟨Nat.le_of_ble_eq_true rfl, Nat.le_of_ble_eq_true rfl⟩) (va_recv hK hP (ci := 0) (q0 := 10) rfl cX_at10) ln_X_H_t hA hK hP hD hS rfl hl.1 rfl rfl (Nat.le_of_ble_eq_true rfl) dX4_rowTellsWordOf_18 (fun H locs hP hD hS => ?_)
    replace hP : va_P D vwCl (cX cI A n a_3.2 k g w z q) H := hP
    replace hD : va_D AA (cX cI A n a_3.2 k g w z q) := hD
    refine lv_pop hx hb dX4_rowTellsWordOf_21 rfl ?_
    refine lv_aload_n hx hb dX4_rowTellsWordOf_22 rfl (lv_at hl 0 rfl) ?_
    refine va_get (D := D) (ci := 4) (v := .ref (A 30)) (C := RX4) (T := TX4) (N := 8) hx hb hts hw4 hown hK hP 0 cX_at0 rfl 4 (by decide) k32 (fun _ h9 => h9) rfl dX4_rowTellsWordOf_23 ?_
    refine lv_aload_n hx hb dX4_rowTellsWordOf_26 rfl (lv_at hl 0 rfl) ?_
    refine va_get (D := D) (ci := 4) (v := .ref (A 10)) (C := RX4) (T := TX4) (N := 8) hx hb hts hw4 hown hK hP 0 cX_at0 rfl 1 (by decide) k16 (fun _ h9 => h9) rfl dX4_rowTellsWordOf_27 ?_
    obtain ⟨a_4, ha_4, hf⟩ := bd_e hf
    refine Ct.callV (As := [.ref (A 10)]) (rest := []) (st1 := [.int a_4]) (c_X3_firstNotLooseAsIn l D cI (fun j => A (30 + j)) (fun j => A (10 + j)) w a_3.2 a_4 ha_4) hx hb hml hown hts (cwV 1 hts gX4_rowTellsWordOf_X3_firstNotLooseAsIn rfl rfl rfl hd_X3_firstNotLooseAsIn ⟨Nat.le_of_ble_eq_true rfl, Nat.le_of_ble_eq_true rfl⟩) (va_recv hK hP (ci := 3) (q0 := 30) rfl cX_at30) ln_X_RH_t hA hK hP hD hS rfl hl.1 rfl rfl (Nat.le_of_ble_eq_true rfl) dX4_rowTellsWordOf_30 (fun H locs hP hD hS => ?_)
    refine lv_bipush (v := -9) hx hb dX4_rowTellsWordOf_33 (by decide +kernel) ?_
    refine lv_icmp_ne (tgt := 42) hx hb dX4_rowTellsWordOf_35 (by decide) (fun c_5 => ?_) (fun c_5 => ?_)
    · replace hf := if_f c_5 hf
      refine lv_iconst (v := 0) hx hb dX4_rowTellsWordOf_42 (by decide) ?_
      exact hend ((0 : Int32), a_3.2) H locs _ _ hf hP hS dX4_rowTellsWordOf_43
    · replace hf := if_t c_5 hf
      refine lv_iconst (v := 1) hx hb dX4_rowTellsWordOf_38 (by decide) ?_
      refine lv_goto (tgt := 43) hx hb dX4_rowTellsWordOf_39 (by decide) ?_
      exact hend ((1 : Int32), a_3.2) H locs _ _ hf hP hS dX4_rowTellsWordOf_43
  · replace hf := if_t c_2 hf
    refine lv_iconst (v := 0) hx hb dX4_rowTellsWordOf_11 (by decide) ?_
    exact hend ((0 : Int32), t) H locs _ _ hf hP hS dX4_rowTellsWordOf_12

def rm_X4_whoTold : Room := { frames := 5, cells := 0, slots := 0, locals := 110 }
theorem hd_X4_whoTold : yX4_whoTold.cls = RX4 ∧ yX4_whoTold.cls ≠ "java/lang/invoke/MethodHandle" ∧ yX4_whoTold.cls ≠ "java/lang/invoke/VarHandle" ∧ (parseMethodDescriptor yX4_whoTold.desc).map (fun d => d.parameters.length) = some 0 := by decide +kernel
set_option maxRecDepth 100000 in
set_option maxHeartbeats 4000000 in
theorem c_X4_whoTold (l : Launch) (D : va_G) (cI : ClassId) (A : Nat → Nat) (n : St) (t : St) (k : St) (g : St) (w : St) (z : St) (q : St) (r : Int32 × St) (hf : f_X4_whoTold n t k g w z q = some r) : Ct l yX4_whoTold wsX4_whoTold rm_X4_whoTold D cI (cX cI A n t k g w z q) (cX cI A n r.2 k g w z q) [.ref (A 0)] (some (.int r.1)) := by
  unfold f_X4_whoTold at hf
  refine Ct.ofI (cc := cX4_whoTold) (maxL := 3) (by decide +kernel) rfl (Nat.le_of_ble_eq_true rfl) ?_
  intro p e s m args below meth c AA Q H locs ls hx hb hml hown hts hA hK hP hD hS hl hend0
  have hend : ∀ (r1 : Int32 × St) (H : Heap) (locs : List Loc) (pc : Nat) (ls : Array Slot), some r1 = some r → va_P D vwCl (cX cI A n r1.2 k g w z q) H → va_S AA s.heap H locs → decode cX4_whoTold pc = .ok (.ireturn, 1) → W p l e rm_X4_whoTold s m args below meth c H locs 0 0 Q (F0 m pc ls [.int r1.1]) := by
    intro r1 H locs pc ls e1 hP hS hd; cases e1; exact hend0 H locs pc ls hP hS hd
  clear hend0
  have hw0 : ∀ w ∈ wsX00, w ∈ wsX4_whoTold := by decide +kernel
  have hw4 : ∀ w ∈ wsX40, w ∈ wsX4_whoTold := by decide +kernel
  have k10 := hts (.fieldLink RX4 10 "AnchorsForConfession" "now" "LAnchorsForConfession$Harbour;") (by decide +kernel)
  have k16 := hts (.fieldLink RX4 16 "AnchorsForConfession" "thought" "LAnchorsForConfession$Harbour;") (by decide +kernel)
  have k155 := hts (.fieldLink RX4 155 "AnchorsForConfession$Harbour" "men" "I") (by decide +kernel)
  replace hl : lv_has ls 3 [(0, .ref (A 0))] := hl
  refine lv_iconst (v := 0) hx hb dX4_whoTold_0 (by decide) ?_
  refine lv_istore_n (lv' := [(1, .int (0 : Int32)), (0, .ref (A 0))]) hx hb dX4_whoTold_1 rfl hl (by decide) rfl (fun ls hl => ?_)
  refine lv_iconst (v := 0) hx hb dX4_whoTold_2 (by decide) ?_
  refine lv_istore_n (lv' := [(2, .int (0 : Int32)), (1, .int (0 : Int32)), (0, .ref (A 0))]) hx hb dX4_whoTold_3 rfl hl (by decide) rfl (fun ls hl => ?_)
  refine lp_ind (P := fun (q4 : Int32 × Int32 × St) => ∀ (H : Heap) (locs : List Loc) (ls : Array Slot), va_P D vwCl (cX cI A n q4.2.2 k g w z q) H → va_D AA (cX cI A n q4.2.2 k g w z q) → va_S AA s.heap H locs → lv_has ls 3 [(0, .ref (A 0)), (1, .int q4.1), (2, .int q4.2.1)] → W p l e rm_X4_whoTold s m args below meth c H locs 0 0 Q (F0 m 4 ls [])) hf ?_ H locs ls hP hD hS (lv_sub hl [2, 1, 0] rfl)
  clear hf hP hD hS hl
  intro nx4 ih4 q4 hf H locs ls hP hD hS hl
  refine lv_iload_n hx hb dX4_whoTold_4 rfl (lv_at hl 2 rfl) ?_
  refine lv_aload_n hx hb dX4_whoTold_5 rfl (lv_at hl 0 rfl) ?_
  refine va_get (D := D) (ci := 4) (v := .ref (A 1)) (C := RX4) (T := TX4) (N := 8) hx hb hts hw4 hown hK hP 0 cX_at0 rfl 0 (by decide) k10 (fun _ h9 => h9) rfl dX4_whoTold_6 ?_
  refine va_get (D := D) (ci := 0) (v := .int (n 16 1)) (C := RX0) (T := TX0) (N := 12) hx hb hts hw0 hown hK hP 1 cX_at1 rfl 4 (by decide) k155 (fun _ h9 => h9) rfl dX4_whoTold_9 ?_
  refine lv_icmp_ge (tgt := 46) hx hb dX4_whoTold_12 (by decide) (fun c_1 => ?_) (fun c_1 => ?_)
  · replace hf := if_t c_1 hf
    refine lv_iload_n hx hb dX4_whoTold_46 rfl (lv_at hl 1 rfl) ?_
    exact hend (q4.1, q4.2.2) H locs _ _ hf hP hS dX4_whoTold_47
  · replace hf := if_f c_1 hf
    refine lv_aload_n hx hb dX4_whoTold_15 rfl (lv_at hl 0 rfl) ?_
    refine va_get (D := D) (ci := 4) (v := .ref (A 10)) (C := RX4) (T := TX4) (N := 8) hx hb hts hw4 hown hK hP 0 cX_at0 rfl 1 (by decide) k16 (fun _ h9 => h9) rfl dX4_whoTold_16 ?_
    refine lv_aload_n hx hb dX4_whoTold_19 rfl (lv_at hl 0 rfl) ?_
    refine va_get (D := D) (ci := 4) (v := .ref (A 1)) (C := RX4) (T := TX4) (N := 8) hx hb hts hw4 hown hK hP 0 cX_at0 rfl 0 (by decide) k10 (fun _ h9 => h9) rfl dX4_whoTold_20 ?_
    obtain ⟨a_2, ha_2, hf⟩ := bd_e hf
    refine Ct.callV (As := [.ref (A 1)]) (rest := []) (st1 := []) (c_X0_copyFrom l D cI (fun j => A (10 + j)) (fun j => A (1 + j)) q4.2.2 n a_2 ha_2) hx hb hml hown hts (cwV 1 hts gX4_whoTold_X0_copyFrom rfl rfl rfl hd_X0_copyFrom ⟨Nat.le_of_ble_eq_true rfl, Nat.le_of_ble_eq_true rfl⟩) (va_recv hK hP (ci := 0) (q0 := 10) rfl cX_at10) ln_X_HH_tn hA hK hP hD hS rfl hl.1 rfl rfl (Nat.le_of_ble_eq_true rfl) dX4_whoTold_23 (fun H locs hP hD hS => ?_)
    replace hP : va_P D vwCl (cX cI A n a_2 k g w z q) H := hP
    replace hD : va_D AA (cX cI A n a_2 k g w z q) := hD
    refine lv_aload_n hx hb dX4_whoTold_26 rfl (lv_at hl 0 rfl) ?_
    refine lv_iload_n hx hb dX4_whoTold_27 rfl (lv_at hl 2 rfl) ?_
    obtain ⟨a_3, ha_3, hf⟩ := bd_e hf
    refine Ct.callV (As := [.int q4.2.1]) (rest := []) (st1 := [.int a_3.1]) (c_X4_rowTellsWordOf l D cI A n a_2 k g w z q q4.2.1 a_3 ha_3) hx hb hml hown hts (cwV 1 hts gX4_whoTold_X4_rowTellsWordOf rfl rfl rfl hd_X4_rowTellsWordOf ⟨Nat.le_of_ble_eq_true rfl, Nat.le_of_ble_eq_true rfl⟩) (va_recv hK hP (ci := 4) (q0 := 0) rfl cX_at0) (Ln.id rfl) hA hK hP hD hS rfl hl.1 rfl rfl (Nat.le_of_ble_eq_true rfl) dX4_whoTold_28 (fun H locs hP hD hS => ?_)
    replace hP : va_P D vwCl (cX cI A n a_3.2 k g w z q) H := hP
    replace hD : va_D AA (cX cI A n a_3.2 k g w z q) := hD
    refine lv_if_eq (tgt := 40) hx hb dX4_whoTold_31 (by decide) (fun c_4 => ?_) (fun c_4 => ?_)
    · replace hf := if_t c_4 hf
      obtain ⟨v_5, ev_5, hf⟩ := nq_e hf
      refine lv_iinc (v := v_5) (lv' := [(2, .int v_5), (0, .ref (A 0)), (1, .int q4.1)]) hx hb dX4_whoTold_40 hl (k := 2) rfl (by rw [ev_5]; rfl) (by decide) rfl (fun ls hl => ?_)
      refine lv_goto (tgt := 4) hx hb dX4_whoTold_43 (by decide) ?_
      exact ih4 (q4.1, v_5, a_3.2) hf H locs ls hP hD hS (lv_sub hl [1, 2, 0] rfl)
    · replace hf := if_f c_4 hf
      refine lv_iload_n hx hb dX4_whoTold_34 rfl (lv_at hl 1 rfl) ?_
      refine lv_iconst (v := 1) hx hb dX4_whoTold_35 (by decide) ?_
      refine lv_iload_n hx hb dX4_whoTold_36 rfl (lv_at hl 2 rfl) ?_
      refine lv_ishl hx hb dX4_whoTold_37 ?_
      refine lv_ior hx hb dX4_whoTold_38 ?_
      refine lv_topi (fun v_6 ev_6 => ?_)
      replace hf := nm_at ev_6 hf
      refine lv_istore_n (lv' := [(1, .int v_6), (0, .ref (A 0)), (2, .int q4.2.1)]) hx hb dX4_whoTold_39 rfl hl (by decide) rfl (fun ls hl => ?_)
      obtain ⟨v_7, ev_7, hf⟩ := nq_e hf
      refine lv_iinc (v := v_7) (lv' := [(2, .int v_7), (1, .int v_6), (0, .ref (A 0))]) hx hb dX4_whoTold_40 hl (k := 2) rfl (by rw [ev_7]; rfl) (by decide) rfl (fun ls hl => ?_)
      refine lv_goto (tgt := 4) hx hb dX4_whoTold_43 (by decide) ?_
      exact ih4 (v_6, v_7, a_3.2) hf H locs ls hP hD hS (lv_sub hl [2, 1, 0] rfl)

def rm_X4_whatIs : Room := { frames := 5, cells := 0, slots := 0, locals := 110 }
theorem hd_X4_whatIs : yX4_whatIs.cls = RX4 ∧ yX4_whatIs.cls ≠ "java/lang/invoke/MethodHandle" ∧ yX4_whatIs.cls ≠ "java/lang/invoke/VarHandle" ∧ (parseMethodDescriptor yX4_whatIs.desc).map (fun d => d.parameters.length) = some 2 := by decide +kernel
set_option maxRecDepth 100000 in
set_option maxHeartbeats 4000000 in
theorem c_X4_whatIs (l : Launch) (D : va_G) (cI : ClassId) (A : Nat → Nat) (n : St) (t : St) (k : St) (g : St) (w : St) (z : St) (q : St) (p1 : Int32) (p2 : Int32) (r : Int32 × St × St) (hf : f_X4_whatIs n t k g w z q p1 p2 = some r) : Ct l yX4_whatIs wsX4_whatIs rm_X4_whatIs D cI (cX cI A n t k g w z q) (cX cI A n r.2.1 k g w z r.2.2) [.ref (A 0), .int p1, .int p2] (some (.int r.1)) := by
  unfold f_X4_whatIs at hf
  refine Ct.ofI (cc := cX4_whatIs) (maxL := 5) (by decide +kernel) rfl (Nat.le_of_ble_eq_true rfl) ?_
  intro p e s m args below meth c AA Q H locs ls hx hb hml hown hts hA hK hP hD hS hl hend0
  have hend : ∀ (r1 : Int32 × St × St) (H : Heap) (locs : List Loc) (pc : Nat) (ls : Array Slot), some r1 = some r → va_P D vwCl (cX cI A n r1.2.1 k g w z r1.2.2) H → va_S AA s.heap H locs → decode cX4_whatIs pc = .ok (.ireturn, 1) → W p l e rm_X4_whatIs s m args below meth c H locs 0 0 Q (F0 m pc ls [.int r1.1]) := by
    intro r1 H locs pc ls e1 hP hS hd; cases e1; exact hend0 H locs pc ls hP hS hd
  clear hend0
  have hw0 : ∀ w ∈ wsX00, w ∈ wsX4_whatIs := by decide +kernel
  have hw4 : ∀ w ∈ wsX40, w ∈ wsX4_whatIs := by decide +kernel
  have k10 := hts (.fieldLink RX4 10 "AnchorsForConfession" "now" "LAnchorsForConfession$Harbour;") (by decide +kernel)
  have k16 := hts (.fieldLink RX4 16 "AnchorsForConfession" "thought" "LAnchorsForConfession$Harbour;") (by decide +kernel)
  have k95 := hts (.fieldLink RX4 95 "AnchorsForConfession$Harbour" "kind" "[I") (by decide +kernel)
  have k98 := hts (.fieldLink RX4 98 "AnchorsForConfession$Harbour" "figure" "[I") (by decide +kernel)
  replace hl : lv_has ls 5 [(0, .ref (A 0)), (1, .int p1), (2, .int p2)] := hl
  refine lv_aload_n hx hb dX4_whatIs_0 rfl (lv_at hl 0 rfl) ?_
  refine va_get (D := D) (ci := 4) (v := .ref (A 1)) (C := RX4) (T := TX4) (N := 8) hx hb hts hw4 hown hK hP 0 cX_at0 rfl 0 (by decide) k10 (fun _ h9 => h9) rfl dX4_whatIs_1 ?_
  refine lv_iload_n hx hb dX4_whatIs_4 rfl (lv_at hl 1 rfl) ?_
  obtain ⟨a_1, ha_1, hf⟩ := bd_e hf
  refine Ct.callV (As := [.int p1]) (rest := []) (st1 := [.int a_1]) (c_X0_hasMan l D cI (fun j => A (1 + j)) n p1 a_1 ha_1) hx hb hml hown hts (cwV 1 hts gX4_whatIs_X0_hasMan rfl rfl rfl hd_X0_hasMan ⟨Nat.le_of_ble_eq_true rfl, Nat.le_of_ble_eq_true rfl⟩) (va_recv hK hP (ci := 0) (q0 := 1) rfl cX_at1) ln_X_H_n hA hK hP hD hS rfl hl.1 rfl rfl (Nat.le_of_ble_eq_true rfl) dX4_whatIs_5 (fun H locs hP hD hS => ?_)
  refine lv_if_ne (tgt := 17) hx hb dX4_whatIs_8 (by decide) (fun c_2 => ?_) (fun c_2 => ?_)
  · replace hf := if_f c_2 hf
    refine lv_iload_n hx hb dX4_whatIs_17 rfl (lv_at hl 2 rfl) ?_
    refine lv_if_eq (tgt := 33) hx hb dX4_whatIs_18 (by decide) (fun c_3 => ?_) (fun c_3 => ?_)
    · replace hf := if_t c_3 hf
      refine lv_iconst (v := 0) hx hb dX4_whatIs_33 (by decide) ?_
      refine lv_istore_n (lv' := [(3, .int (0 : Int32)), (0, .ref (A 0)), (1, .int p1), (2, .int p2)]) hx hb dX4_whatIs_34 rfl hl (by decide) rfl (fun ls hl => ?_)
      refine lv_iconst (v := 0) hx hb dX4_whatIs_35 (by decide) ?_
      refine lv_istore (lv' := [(4, .int (0 : Int32)), (3, .int (0 : Int32)), (0, .ref (A 0)), (1, .int p1), (2, .int p2)]) hx hb dX4_whatIs_36 hl (by decide) rfl (fun ls hl => ?_)
      refine lp_ind (P := fun (q38 : Int32 × Int32 × St) => ∀ (H : Heap) (locs : List Loc) (ls : Array Slot), va_P D vwCl (cX cI A n q38.2.2 k g w z q) H → va_D AA (cX cI A n q38.2.2 k g w z q) → va_S AA s.heap H locs → lv_has ls 5 [(0, .ref (A 0)), (1, .int p1), (2, .int p2), (3, .int q38.1), (4, .int q38.2.1)] → W p l e rm_X4_whatIs s m args below meth c H locs 0 0 Q (F0 m 38 ls [])) hf ?_ H locs ls hP hD hS (lv_sub hl [2, 3, 4, 1, 0] rfl)
      clear hf hP hD hS hl
      intro nx38 ih38 q38 hf H locs ls hP hD hS hl
      refine lv_iload hx hb dX4_whatIs_38 (lv_at hl 4 rfl) ?_
      refine lv_iload_n hx hb dX4_whatIs_40 rfl (lv_at hl 2 rfl) ?_
      refine lv_if_ne (tgt := 49) hx hb dX4_whatIs_41 (by decide) (fun c_4 => ?_) (fun c_4 => ?_)
      · replace hf := if_f c_4 hf
        refine lv_bipush (v := 10) hx hb dX4_whatIs_49 (by decide +kernel) ?_
        refine lv_icmp_ge (tgt := 115) hx hb dX4_whatIs_51 (by decide) (fun c_5 => ?_) (fun c_5 => ?_)
        · replace hf := if_t c_5 hf
          refine lv_iload_n hx hb dX4_whatIs_115 rfl (lv_at hl 3 rfl) ?_
          exact hend (q38.1, q38.2.2, q) H locs _ _ hf hP hS dX4_whatIs_116
        · replace hf := if_f c_5 hf
          refine lv_aload_n hx hb dX4_whatIs_54 rfl (lv_at hl 0 rfl) ?_
          refine va_get (D := D) (ci := 4) (v := .ref (A 10)) (C := RX4) (T := TX4) (N := 8) hx hb hts hw4 hown hK hP 0 cX_at0 rfl 1 (by decide) k16 (fun _ h9 => h9) rfl dX4_whatIs_55 ?_
          refine lv_aload_n hx hb dX4_whatIs_58 rfl (lv_at hl 0 rfl) ?_
          refine va_get (D := D) (ci := 4) (v := .ref (A 1)) (C := RX4) (T := TX4) (N := 8) hx hb hts hw4 hown hK hP 0 cX_at0 rfl 0 (by decide) k10 (fun _ h9 => h9) rfl dX4_whatIs_59 ?_
          obtain ⟨a_6, ha_6, hf⟩ := bd_e hf
          refine Ct.callV (As := [.ref (A 1)]) (rest := []) (st1 := []) (c_X0_copyFrom l D cI (fun j => A (10 + j)) (fun j => A (1 + j)) q38.2.2 n a_6 ha_6) hx hb hml hown hts (cwV 1 hts gX4_whatIs_X0_copyFrom rfl rfl rfl hd_X0_copyFrom ⟨Nat.le_of_ble_eq_true rfl, Nat.le_of_ble_eq_true rfl⟩) (va_recv hK hP (ci := 0) (q0 := 10) rfl cX_at10) ln_X_HH_tn hA hK hP hD hS rfl hl.1 rfl rfl (Nat.le_of_ble_eq_true rfl) dX4_whatIs_62 (fun H locs hP hD hS => ?_)
          replace hP : va_P D vwCl (cX cI A n a_6 k g w z q) H := hP
          replace hD : va_D AA (cX cI A n a_6 k g w z q) := hD
          refine lv_iload_n hx hb dX4_whatIs_65 rfl (lv_at hl 2 rfl) ?_
          refine lv_if_ne (tgt := 83) hx hb dX4_whatIs_66 (by decide) (fun c_7 => ?_) (fun c_7 => ?_)
          · replace hf := if_f c_7 hf
            refine lv_aload_n hx hb dX4_whatIs_83 rfl (lv_at hl 0 rfl) ?_
            refine va_get (D := D) (ci := 4) (v := .ref (A 10)) (C := RX4) (T := TX4) (N := 8) hx hb hts hw4 hown hK hP 0 cX_at0 rfl 1 (by decide) k16 (fun _ h9 => h9) rfl dX4_whatIs_84 ?_
            refine va_get (D := D) (ci := 0) (v := .ref (A 15)) (C := RX0) (T := TX0) (N := 12) hx hb hts hw0 hown hK hP 10 cX_at10 rfl 6 (by decide) k98 (fun _ h9 => h9) rfl dX4_whatIs_87 ?_
            refine lv_iload_n hx hb dX4_whatIs_90 rfl (lv_at hl 1 rfl) ?_
            refine lv_iload hx hb dX4_whatIs_91 (lv_at hl 4 rfl) ?_
            obtain ⟨c_8, hf⟩ := gi_e hf
            refine va_iast hx hb hK hP hD hS 15 0 cX_at15 rfl c_8 dX4_whatIs_93 (fun H locs hP hD hS => ?_)
            obtain ⟨h_9, eh_9, hf⟩ := nq_e hf
            rw [cX_su15, ← eh_9] at hP hD
            refine lv_aload_n hx hb dX4_whatIs_94 rfl (lv_at hl 0 rfl) ?_
            refine lv_iload_n hx hb dX4_whatIs_95 rfl (lv_at hl 1 rfl) ?_
            obtain ⟨a_10, ha_10, hf⟩ := bd_e hf
            refine Ct.callV (As := [.int p1]) (rest := []) (st1 := [.int a_10.1]) (c_X4_rowTellsWordOf l D cI A n h_9 k g w z q p1 a_10 ha_10) hx hb hml hown hts (cwV 1 hts gX4_whatIs_X4_rowTellsWordOf rfl rfl rfl hd_X4_rowTellsWordOf ⟨Nat.le_of_ble_eq_true rfl, Nat.le_of_ble_eq_true rfl⟩) (va_recv hK hP (ci := 4) (q0 := 0) rfl cX_at0) (Ln.id rfl) hA hK hP hD hS rfl hl.1 rfl rfl (Nat.le_of_ble_eq_true rfl) dX4_whatIs_96 (fun H locs hP hD hS => ?_)
            replace hP : va_P D vwCl (cX cI A n a_10.2 k g w z q) H := hP
            replace hD : va_D AA (cX cI A n a_10.2 k g w z q) := hD
            refine lv_if_eq (tgt := 109) hx hb dX4_whatIs_99 (by decide) (fun c_11 => ?_) (fun c_11 => ?_)
            · replace hf := if_t c_11 hf
              obtain ⟨v_12, ev_12, hf⟩ := nq_e hf
              refine lv_iinc (v := v_12) (lv' := [(4, .int v_12), (0, .ref (A 0)), (1, .int p1), (2, .int p2), (3, .int q38.1)]) hx hb dX4_whatIs_109 hl (k := 4) rfl (by rw [ev_12]; rfl) (by decide) rfl (fun ls hl => ?_)
              refine lv_goto (tgt := 38) hx hb dX4_whatIs_112 (by decide) ?_
              exact ih38 (q38.1, v_12, a_10.2) hf H locs ls hP hD hS (lv_sub hl [1, 2, 3, 4, 0] rfl)
            · replace hf := if_f c_11 hf
              refine lv_iload_n hx hb dX4_whatIs_102 rfl (lv_at hl 3 rfl) ?_
              refine lv_iconst (v := 1) hx hb dX4_whatIs_103 (by decide) ?_
              refine lv_iload hx hb dX4_whatIs_104 (lv_at hl 4 rfl) ?_
              refine lv_ishl hx hb dX4_whatIs_106 ?_
              refine lv_ior hx hb dX4_whatIs_107 ?_
              refine lv_topi (fun v_13 ev_13 => ?_)
              replace hf := nm_at ev_13 hf
              refine lv_istore_n (lv' := [(3, .int v_13), (0, .ref (A 0)), (1, .int p1), (2, .int p2), (4, .int q38.2.1)]) hx hb dX4_whatIs_108 rfl hl (by decide) rfl (fun ls hl => ?_)
              obtain ⟨v_14, ev_14, hf⟩ := nq_e hf
              refine lv_iinc (v := v_14) (lv' := [(4, .int v_14), (3, .int v_13), (0, .ref (A 0)), (1, .int p1), (2, .int p2)]) hx hb dX4_whatIs_109 hl (k := 4) rfl (by rw [ev_14]; rfl) (by decide) rfl (fun ls hl => ?_)
              refine lv_goto (tgt := 38) hx hb dX4_whatIs_112 (by decide) ?_
              exact ih38 (v_13, v_14, a_10.2) hf H locs ls hP hD hS (lv_sub hl [2, 3, 4, 1, 0] rfl)
          · replace hf := if_t c_7 hf
            refine lv_aload_n hx hb dX4_whatIs_69 rfl (lv_at hl 0 rfl) ?_
            refine va_get (D := D) (ci := 4) (v := .ref (A 10)) (C := RX4) (T := TX4) (N := 8) hx hb hts hw4 hown hK hP 0 cX_at0 rfl 1 (by decide) k16 (fun _ h9 => h9) rfl dX4_whatIs_70 ?_
            refine va_get (D := D) (ci := 0) (v := .ref (A 14)) (C := RX0) (T := TX0) (N := 12) hx hb hts hw0 hown hK hP 10 cX_at10 rfl 5 (by decide) k95 (fun _ h9 => h9) rfl dX4_whatIs_73 ?_
            refine lv_iload_n hx hb dX4_whatIs_76 rfl (lv_at hl 1 rfl) ?_
            refine lv_iload hx hb dX4_whatIs_77 (lv_at hl 4 rfl) ?_
            obtain ⟨c_15, hf⟩ := gi_e hf
            refine va_iast hx hb hK hP hD hS 14 0 cX_at14 rfl c_15 dX4_whatIs_79 (fun H locs hP hD hS => ?_)
            obtain ⟨h_16, eh_16, hf⟩ := nq_e hf
            rw [cX_su14, ← eh_16] at hP hD
            refine lv_goto (tgt := 94) hx hb dX4_whatIs_80 (by decide) ?_
            refine lv_aload_n hx hb dX4_whatIs_94 rfl (lv_at hl 0 rfl) ?_
            refine lv_iload_n hx hb dX4_whatIs_95 rfl (lv_at hl 1 rfl) ?_
            obtain ⟨a_17, ha_17, hf⟩ := bd_e hf
            refine Ct.callV (As := [.int p1]) (rest := []) (st1 := [.int a_17.1]) (c_X4_rowTellsWordOf l D cI A n h_16 k g w z q p1 a_17 ha_17) hx hb hml hown hts (cwV 1 hts gX4_whatIs_X4_rowTellsWordOf rfl rfl rfl hd_X4_rowTellsWordOf ⟨Nat.le_of_ble_eq_true rfl, Nat.le_of_ble_eq_true rfl⟩) (va_recv hK hP (ci := 4) (q0 := 0) rfl cX_at0) (Ln.id rfl) hA hK hP hD hS rfl hl.1 rfl rfl (Nat.le_of_ble_eq_true rfl) dX4_whatIs_96 (fun H locs hP hD hS => ?_)
            replace hP : va_P D vwCl (cX cI A n a_17.2 k g w z q) H := hP
            replace hD : va_D AA (cX cI A n a_17.2 k g w z q) := hD
            refine lv_if_eq (tgt := 109) hx hb dX4_whatIs_99 (by decide) (fun c_18 => ?_) (fun c_18 => ?_)
            · replace hf := if_t c_18 hf
              obtain ⟨v_19, ev_19, hf⟩ := nq_e hf
              refine lv_iinc (v := v_19) (lv' := [(4, .int v_19), (0, .ref (A 0)), (1, .int p1), (2, .int p2), (3, .int q38.1)]) hx hb dX4_whatIs_109 hl (k := 4) rfl (by rw [ev_19]; rfl) (by decide) rfl (fun ls hl => ?_)
              refine lv_goto (tgt := 38) hx hb dX4_whatIs_112 (by decide) ?_
              exact ih38 (q38.1, v_19, a_17.2) hf H locs ls hP hD hS (lv_sub hl [1, 2, 3, 4, 0] rfl)
            · replace hf := if_f c_18 hf
              refine lv_iload_n hx hb dX4_whatIs_102 rfl (lv_at hl 3 rfl) ?_
              refine lv_iconst (v := 1) hx hb dX4_whatIs_103 (by decide) ?_
              refine lv_iload hx hb dX4_whatIs_104 (lv_at hl 4 rfl) ?_
              refine lv_ishl hx hb dX4_whatIs_106 ?_
              refine lv_ior hx hb dX4_whatIs_107 ?_
              refine lv_topi (fun v_20 ev_20 => ?_)
              replace hf := nm_at ev_20 hf
              refine lv_istore_n (lv' := [(3, .int v_20), (0, .ref (A 0)), (1, .int p1), (2, .int p2), (4, .int q38.2.1)]) hx hb dX4_whatIs_108 rfl hl (by decide) rfl (fun ls hl => ?_)
              obtain ⟨v_21, ev_21, hf⟩ := nq_e hf
              refine lv_iinc (v := v_21) (lv' := [(4, .int v_21), (3, .int v_20), (0, .ref (A 0)), (1, .int p1), (2, .int p2)]) hx hb dX4_whatIs_109 hl (k := 4) rfl (by rw [ev_21]; rfl) (by decide) rfl (fun ls hl => ?_)
              refine lv_goto (tgt := 38) hx hb dX4_whatIs_112 (by decide) ?_
              exact ih38 (v_20, v_21, a_17.2) hf H locs ls hP hD hS (lv_sub hl [2, 3, 4, 1, 0] rfl)
      · replace hf := if_t c_4 hf
        refine lv_bipush (v := 6) hx hb dX4_whatIs_44 (by decide +kernel) ?_
        refine lv_goto (tgt := 51) hx hb dX4_whatIs_46 (by decide) ?_
        refine lv_icmp_ge (tgt := 115) hx hb dX4_whatIs_51 (by decide) (fun c_22 => ?_) (fun c_22 => ?_)
        · replace hf := if_t c_22 hf
          refine lv_iload_n hx hb dX4_whatIs_115 rfl (lv_at hl 3 rfl) ?_
          exact hend (q38.1, q38.2.2, q) H locs _ _ hf hP hS dX4_whatIs_116
        · replace hf := if_f c_22 hf
          refine lv_aload_n hx hb dX4_whatIs_54 rfl (lv_at hl 0 rfl) ?_
          refine va_get (D := D) (ci := 4) (v := .ref (A 10)) (C := RX4) (T := TX4) (N := 8) hx hb hts hw4 hown hK hP 0 cX_at0 rfl 1 (by decide) k16 (fun _ h9 => h9) rfl dX4_whatIs_55 ?_
          refine lv_aload_n hx hb dX4_whatIs_58 rfl (lv_at hl 0 rfl) ?_
          refine va_get (D := D) (ci := 4) (v := .ref (A 1)) (C := RX4) (T := TX4) (N := 8) hx hb hts hw4 hown hK hP 0 cX_at0 rfl 0 (by decide) k10 (fun _ h9 => h9) rfl dX4_whatIs_59 ?_
          obtain ⟨a_23, ha_23, hf⟩ := bd_e hf
          refine Ct.callV (As := [.ref (A 1)]) (rest := []) (st1 := []) (c_X0_copyFrom l D cI (fun j => A (10 + j)) (fun j => A (1 + j)) q38.2.2 n a_23 ha_23) hx hb hml hown hts (cwV 1 hts gX4_whatIs_X0_copyFrom rfl rfl rfl hd_X0_copyFrom ⟨Nat.le_of_ble_eq_true rfl, Nat.le_of_ble_eq_true rfl⟩) (va_recv hK hP (ci := 0) (q0 := 10) rfl cX_at10) ln_X_HH_tn hA hK hP hD hS rfl hl.1 rfl rfl (Nat.le_of_ble_eq_true rfl) dX4_whatIs_62 (fun H locs hP hD hS => ?_)
          replace hP : va_P D vwCl (cX cI A n a_23 k g w z q) H := hP
          replace hD : va_D AA (cX cI A n a_23 k g w z q) := hD
          refine lv_iload_n hx hb dX4_whatIs_65 rfl (lv_at hl 2 rfl) ?_
          refine lv_if_ne (tgt := 83) hx hb dX4_whatIs_66 (by decide) (fun c_24 => ?_) (fun c_24 => ?_)
          · replace hf := if_f c_24 hf
            refine lv_aload_n hx hb dX4_whatIs_83 rfl (lv_at hl 0 rfl) ?_
            refine va_get (D := D) (ci := 4) (v := .ref (A 10)) (C := RX4) (T := TX4) (N := 8) hx hb hts hw4 hown hK hP 0 cX_at0 rfl 1 (by decide) k16 (fun _ h9 => h9) rfl dX4_whatIs_84 ?_
            refine va_get (D := D) (ci := 0) (v := .ref (A 15)) (C := RX0) (T := TX0) (N := 12) hx hb hts hw0 hown hK hP 10 cX_at10 rfl 6 (by decide) k98 (fun _ h9 => h9) rfl dX4_whatIs_87 ?_
            refine lv_iload_n hx hb dX4_whatIs_90 rfl (lv_at hl 1 rfl) ?_
            refine lv_iload hx hb dX4_whatIs_91 (lv_at hl 4 rfl) ?_
            obtain ⟨c_25, hf⟩ := gi_e hf
            refine va_iast hx hb hK hP hD hS 15 0 cX_at15 rfl c_25 dX4_whatIs_93 (fun H locs hP hD hS => ?_)
            obtain ⟨h_26, eh_26, hf⟩ := nq_e hf
            rw [cX_su15, ← eh_26] at hP hD
            refine lv_aload_n hx hb dX4_whatIs_94 rfl (lv_at hl 0 rfl) ?_
            refine lv_iload_n hx hb dX4_whatIs_95 rfl (lv_at hl 1 rfl) ?_
            obtain ⟨a_27, ha_27, hf⟩ := bd_e hf
            refine Ct.callV (As := [.int p1]) (rest := []) (st1 := [.int a_27.1]) (c_X4_rowTellsWordOf l D cI A n h_26 k g w z q p1 a_27 ha_27) hx hb hml hown hts (cwV 1 hts gX4_whatIs_X4_rowTellsWordOf rfl rfl rfl hd_X4_rowTellsWordOf ⟨Nat.le_of_ble_eq_true rfl, Nat.le_of_ble_eq_true rfl⟩) (va_recv hK hP (ci := 4) (q0 := 0) rfl cX_at0) (Ln.id rfl) hA hK hP hD hS rfl hl.1 rfl rfl (Nat.le_of_ble_eq_true rfl) dX4_whatIs_96 (fun H locs hP hD hS => ?_)
            replace hP : va_P D vwCl (cX cI A n a_27.2 k g w z q) H := hP
            replace hD : va_D AA (cX cI A n a_27.2 k g w z q) := hD
            refine lv_if_eq (tgt := 109) hx hb dX4_whatIs_99 (by decide) (fun c_28 => ?_) (fun c_28 => ?_)
            · replace hf := if_t c_28 hf
              obtain ⟨v_29, ev_29, hf⟩ := nq_e hf
              refine lv_iinc (v := v_29) (lv' := [(4, .int v_29), (0, .ref (A 0)), (1, .int p1), (2, .int p2), (3, .int q38.1)]) hx hb dX4_whatIs_109 hl (k := 4) rfl (by rw [ev_29]; rfl) (by decide) rfl (fun ls hl => ?_)
              refine lv_goto (tgt := 38) hx hb dX4_whatIs_112 (by decide) ?_
              exact ih38 (q38.1, v_29, a_27.2) hf H locs ls hP hD hS (lv_sub hl [1, 2, 3, 4, 0] rfl)
            · replace hf := if_f c_28 hf
              refine lv_iload_n hx hb dX4_whatIs_102 rfl (lv_at hl 3 rfl) ?_
              refine lv_iconst (v := 1) hx hb dX4_whatIs_103 (by decide) ?_
              refine lv_iload hx hb dX4_whatIs_104 (lv_at hl 4 rfl) ?_
              refine lv_ishl hx hb dX4_whatIs_106 ?_
              refine lv_ior hx hb dX4_whatIs_107 ?_
              refine lv_topi (fun v_30 ev_30 => ?_)
              replace hf := nm_at ev_30 hf
              refine lv_istore_n (lv' := [(3, .int v_30), (0, .ref (A 0)), (1, .int p1), (2, .int p2), (4, .int q38.2.1)]) hx hb dX4_whatIs_108 rfl hl (by decide) rfl (fun ls hl => ?_)
              obtain ⟨v_31, ev_31, hf⟩ := nq_e hf
              refine lv_iinc (v := v_31) (lv' := [(4, .int v_31), (3, .int v_30), (0, .ref (A 0)), (1, .int p1), (2, .int p2)]) hx hb dX4_whatIs_109 hl (k := 4) rfl (by rw [ev_31]; rfl) (by decide) rfl (fun ls hl => ?_)
              refine lv_goto (tgt := 38) hx hb dX4_whatIs_112 (by decide) ?_
              exact ih38 (v_30, v_31, a_27.2) hf H locs ls hP hD hS (lv_sub hl [2, 3, 4, 1, 0] rfl)
          · replace hf := if_t c_24 hf
            refine lv_aload_n hx hb dX4_whatIs_69 rfl (lv_at hl 0 rfl) ?_
            refine va_get (D := D) (ci := 4) (v := .ref (A 10)) (C := RX4) (T := TX4) (N := 8) hx hb hts hw4 hown hK hP 0 cX_at0 rfl 1 (by decide) k16 (fun _ h9 => h9) rfl dX4_whatIs_70 ?_
            refine va_get (D := D) (ci := 0) (v := .ref (A 14)) (C := RX0) (T := TX0) (N := 12) hx hb hts hw0 hown hK hP 10 cX_at10 rfl 5 (by decide) k95 (fun _ h9 => h9) rfl dX4_whatIs_73 ?_
            refine lv_iload_n hx hb dX4_whatIs_76 rfl (lv_at hl 1 rfl) ?_
            refine lv_iload hx hb dX4_whatIs_77 (lv_at hl 4 rfl) ?_
            obtain ⟨c_32, hf⟩ := gi_e hf
            refine va_iast hx hb hK hP hD hS 14 0 cX_at14 rfl c_32 dX4_whatIs_79 (fun H locs hP hD hS => ?_)
            obtain ⟨h_33, eh_33, hf⟩ := nq_e hf
            rw [cX_su14, ← eh_33] at hP hD
            refine lv_goto (tgt := 94) hx hb dX4_whatIs_80 (by decide) ?_
            refine lv_aload_n hx hb dX4_whatIs_94 rfl (lv_at hl 0 rfl) ?_
            refine lv_iload_n hx hb dX4_whatIs_95 rfl (lv_at hl 1 rfl) ?_
            obtain ⟨a_34, ha_34, hf⟩ := bd_e hf
            refine Ct.callV (As := [.int p1]) (rest := []) (st1 := [.int a_34.1]) (c_X4_rowTellsWordOf l D cI A n h_33 k g w z q p1 a_34 ha_34) hx hb hml hown hts (cwV 1 hts gX4_whatIs_X4_rowTellsWordOf rfl rfl rfl hd_X4_rowTellsWordOf ⟨Nat.le_of_ble_eq_true rfl, Nat.le_of_ble_eq_true rfl⟩) (va_recv hK hP (ci := 4) (q0 := 0) rfl cX_at0) (Ln.id rfl) hA hK hP hD hS rfl hl.1 rfl rfl (Nat.le_of_ble_eq_true rfl) dX4_whatIs_96 (fun H locs hP hD hS => ?_)
            replace hP : va_P D vwCl (cX cI A n a_34.2 k g w z q) H := hP
            replace hD : va_D AA (cX cI A n a_34.2 k g w z q) := hD
            refine lv_if_eq (tgt := 109) hx hb dX4_whatIs_99 (by decide) (fun c_35 => ?_) (fun c_35 => ?_)
            · replace hf := if_t c_35 hf
              obtain ⟨v_36, ev_36, hf⟩ := nq_e hf
              refine lv_iinc (v := v_36) (lv' := [(4, .int v_36), (0, .ref (A 0)), (1, .int p1), (2, .int p2), (3, .int q38.1)]) hx hb dX4_whatIs_109 hl (k := 4) rfl (by rw [ev_36]; rfl) (by decide) rfl (fun ls hl => ?_)
              refine lv_goto (tgt := 38) hx hb dX4_whatIs_112 (by decide) ?_
              exact ih38 (q38.1, v_36, a_34.2) hf H locs ls hP hD hS (lv_sub hl [1, 2, 3, 4, 0] rfl)
            · replace hf := if_f c_35 hf
              refine lv_iload_n hx hb dX4_whatIs_102 rfl (lv_at hl 3 rfl) ?_
              refine lv_iconst (v := 1) hx hb dX4_whatIs_103 (by decide) ?_
              refine lv_iload hx hb dX4_whatIs_104 (lv_at hl 4 rfl) ?_
              refine lv_ishl hx hb dX4_whatIs_106 ?_
              refine lv_ior hx hb dX4_whatIs_107 ?_
              refine lv_topi (fun v_37 ev_37 => ?_)
              replace hf := nm_at ev_37 hf
              refine lv_istore_n (lv' := [(3, .int v_37), (0, .ref (A 0)), (1, .int p1), (2, .int p2), (4, .int q38.2.1)]) hx hb dX4_whatIs_108 rfl hl (by decide) rfl (fun ls hl => ?_)
              obtain ⟨v_38, ev_38, hf⟩ := nq_e hf
              refine lv_iinc (v := v_38) (lv' := [(4, .int v_38), (3, .int v_37), (0, .ref (A 0)), (1, .int p1), (2, .int p2)]) hx hb dX4_whatIs_109 hl (k := 4) rfl (by rw [ev_38]; rfl) (by decide) rfl (fun ls hl => ?_)
              refine lv_goto (tgt := 38) hx hb dX4_whatIs_112 (by decide) ?_
              exact ih38 (v_37, v_38, a_34.2) hf H locs ls hP hD hS (lv_sub hl [2, 3, 4, 1, 0] rfl)
    · replace hf := if_f c_3 hf
      refine lv_iload_n hx hb dX4_whatIs_21 rfl (lv_at hl 2 rfl) ?_
      refine lv_iconst (v := 1) hx hb dX4_whatIs_22 (by decide) ?_
      refine lv_icmp_eq (tgt := 33) hx hb dX4_whatIs_23 (by decide) (fun c_39 => ?_) (fun c_39 => ?_)
      · replace hf := if_t c_39 hf
        refine lv_iconst (v := 0) hx hb dX4_whatIs_33 (by decide) ?_
        refine lv_istore_n (lv' := [(3, .int (0 : Int32)), (0, .ref (A 0)), (1, .int p1), (2, .int p2)]) hx hb dX4_whatIs_34 rfl hl (by decide) rfl (fun ls hl => ?_)
        refine lv_iconst (v := 0) hx hb dX4_whatIs_35 (by decide) ?_
        refine lv_istore (lv' := [(4, .int (0 : Int32)), (3, .int (0 : Int32)), (0, .ref (A 0)), (1, .int p1), (2, .int p2)]) hx hb dX4_whatIs_36 hl (by decide) rfl (fun ls hl => ?_)
        refine lp_ind (P := fun (q38 : Int32 × Int32 × St) => ∀ (H : Heap) (locs : List Loc) (ls : Array Slot), va_P D vwCl (cX cI A n q38.2.2 k g w z q) H → va_D AA (cX cI A n q38.2.2 k g w z q) → va_S AA s.heap H locs → lv_has ls 5 [(0, .ref (A 0)), (1, .int p1), (2, .int p2), (3, .int q38.1), (4, .int q38.2.1)] → W p l e rm_X4_whatIs s m args below meth c H locs 0 0 Q (F0 m 38 ls [])) hf ?_ H locs ls hP hD hS (lv_sub hl [2, 3, 4, 1, 0] rfl)
        clear hf hP hD hS hl
        intro nx38 ih38 q38 hf H locs ls hP hD hS hl
        refine lv_iload hx hb dX4_whatIs_38 (lv_at hl 4 rfl) ?_
        refine lv_iload_n hx hb dX4_whatIs_40 rfl (lv_at hl 2 rfl) ?_
        refine lv_if_ne (tgt := 49) hx hb dX4_whatIs_41 (by decide) (fun c_40 => ?_) (fun c_40 => ?_)
        · replace hf := if_f c_40 hf
          refine lv_bipush (v := 10) hx hb dX4_whatIs_49 (by decide +kernel) ?_
          refine lv_icmp_ge (tgt := 115) hx hb dX4_whatIs_51 (by decide) (fun c_41 => ?_) (fun c_41 => ?_)
          · replace hf := if_t c_41 hf
            refine lv_iload_n hx hb dX4_whatIs_115 rfl (lv_at hl 3 rfl) ?_
            exact hend (q38.1, q38.2.2, q) H locs _ _ hf hP hS dX4_whatIs_116
          · replace hf := if_f c_41 hf
            refine lv_aload_n hx hb dX4_whatIs_54 rfl (lv_at hl 0 rfl) ?_
            refine va_get (D := D) (ci := 4) (v := .ref (A 10)) (C := RX4) (T := TX4) (N := 8) hx hb hts hw4 hown hK hP 0 cX_at0 rfl 1 (by decide) k16 (fun _ h9 => h9) rfl dX4_whatIs_55 ?_
            refine lv_aload_n hx hb dX4_whatIs_58 rfl (lv_at hl 0 rfl) ?_
            refine va_get (D := D) (ci := 4) (v := .ref (A 1)) (C := RX4) (T := TX4) (N := 8) hx hb hts hw4 hown hK hP 0 cX_at0 rfl 0 (by decide) k10 (fun _ h9 => h9) rfl dX4_whatIs_59 ?_
            obtain ⟨a_42, ha_42, hf⟩ := bd_e hf
            refine Ct.callV (As := [.ref (A 1)]) (rest := []) (st1 := []) (c_X0_copyFrom l D cI (fun j => A (10 + j)) (fun j => A (1 + j)) q38.2.2 n a_42 ha_42) hx hb hml hown hts (cwV 1 hts gX4_whatIs_X0_copyFrom rfl rfl rfl hd_X0_copyFrom ⟨Nat.le_of_ble_eq_true rfl, Nat.le_of_ble_eq_true rfl⟩) (va_recv hK hP (ci := 0) (q0 := 10) rfl cX_at10) ln_X_HH_tn hA hK hP hD hS rfl hl.1 rfl rfl (Nat.le_of_ble_eq_true rfl) dX4_whatIs_62 (fun H locs hP hD hS => ?_)
            replace hP : va_P D vwCl (cX cI A n a_42 k g w z q) H := hP
            replace hD : va_D AA (cX cI A n a_42 k g w z q) := hD
            refine lv_iload_n hx hb dX4_whatIs_65 rfl (lv_at hl 2 rfl) ?_
            refine lv_if_ne (tgt := 83) hx hb dX4_whatIs_66 (by decide) (fun c_43 => ?_) (fun c_43 => ?_)
            · replace hf := if_f c_43 hf
              refine lv_aload_n hx hb dX4_whatIs_83 rfl (lv_at hl 0 rfl) ?_
              refine va_get (D := D) (ci := 4) (v := .ref (A 10)) (C := RX4) (T := TX4) (N := 8) hx hb hts hw4 hown hK hP 0 cX_at0 rfl 1 (by decide) k16 (fun _ h9 => h9) rfl dX4_whatIs_84 ?_
              refine va_get (D := D) (ci := 0) (v := .ref (A 15)) (C := RX0) (T := TX0) (N := 12) hx hb hts hw0 hown hK hP 10 cX_at10 rfl 6 (by decide) k98 (fun _ h9 => h9) rfl dX4_whatIs_87 ?_
              refine lv_iload_n hx hb dX4_whatIs_90 rfl (lv_at hl 1 rfl) ?_
              refine lv_iload hx hb dX4_whatIs_91 (lv_at hl 4 rfl) ?_
              obtain ⟨c_44, hf⟩ := gi_e hf
              refine va_iast hx hb hK hP hD hS 15 0 cX_at15 rfl c_44 dX4_whatIs_93 (fun H locs hP hD hS => ?_)
              obtain ⟨h_45, eh_45, hf⟩ := nq_e hf
              rw [cX_su15, ← eh_45] at hP hD
              refine lv_aload_n hx hb dX4_whatIs_94 rfl (lv_at hl 0 rfl) ?_
              refine lv_iload_n hx hb dX4_whatIs_95 rfl (lv_at hl 1 rfl) ?_
              obtain ⟨a_46, ha_46, hf⟩ := bd_e hf
              refine Ct.callV (As := [.int p1]) (rest := []) (st1 := [.int a_46.1]) (c_X4_rowTellsWordOf l D cI A n h_45 k g w z q p1 a_46 ha_46) hx hb hml hown hts (cwV 1 hts gX4_whatIs_X4_rowTellsWordOf rfl rfl rfl hd_X4_rowTellsWordOf ⟨Nat.le_of_ble_eq_true rfl, Nat.le_of_ble_eq_true rfl⟩) (va_recv hK hP (ci := 4) (q0 := 0) rfl cX_at0) (Ln.id rfl) hA hK hP hD hS rfl hl.1 rfl rfl (Nat.le_of_ble_eq_true rfl) dX4_whatIs_96 (fun H locs hP hD hS => ?_)
              replace hP : va_P D vwCl (cX cI A n a_46.2 k g w z q) H := hP
              replace hD : va_D AA (cX cI A n a_46.2 k g w z q) := hD
              refine lv_if_eq (tgt := 109) hx hb dX4_whatIs_99 (by decide) (fun c_47 => ?_) (fun c_47 => ?_)
              · replace hf := if_t c_47 hf
                obtain ⟨v_48, ev_48, hf⟩ := nq_e hf
                refine lv_iinc (v := v_48) (lv' := [(4, .int v_48), (0, .ref (A 0)), (1, .int p1), (2, .int p2), (3, .int q38.1)]) hx hb dX4_whatIs_109 hl (k := 4) rfl (by rw [ev_48]; rfl) (by decide) rfl (fun ls hl => ?_)
                refine lv_goto (tgt := 38) hx hb dX4_whatIs_112 (by decide) ?_
                exact ih38 (q38.1, v_48, a_46.2) hf H locs ls hP hD hS (lv_sub hl [1, 2, 3, 4, 0] rfl)
              · replace hf := if_f c_47 hf
                refine lv_iload_n hx hb dX4_whatIs_102 rfl (lv_at hl 3 rfl) ?_
                refine lv_iconst (v := 1) hx hb dX4_whatIs_103 (by decide) ?_
                refine lv_iload hx hb dX4_whatIs_104 (lv_at hl 4 rfl) ?_
                refine lv_ishl hx hb dX4_whatIs_106 ?_
                refine lv_ior hx hb dX4_whatIs_107 ?_
                refine lv_topi (fun v_49 ev_49 => ?_)
                replace hf := nm_at ev_49 hf
                refine lv_istore_n (lv' := [(3, .int v_49), (0, .ref (A 0)), (1, .int p1), (2, .int p2), (4, .int q38.2.1)]) hx hb dX4_whatIs_108 rfl hl (by decide) rfl (fun ls hl => ?_)
                obtain ⟨v_50, ev_50, hf⟩ := nq_e hf
                refine lv_iinc (v := v_50) (lv' := [(4, .int v_50), (3, .int v_49), (0, .ref (A 0)), (1, .int p1), (2, .int p2)]) hx hb dX4_whatIs_109 hl (k := 4) rfl (by rw [ev_50]; rfl) (by decide) rfl (fun ls hl => ?_)
                refine lv_goto (tgt := 38) hx hb dX4_whatIs_112 (by decide) ?_
                exact ih38 (v_49, v_50, a_46.2) hf H locs ls hP hD hS (lv_sub hl [2, 3, 4, 1, 0] rfl)
            · replace hf := if_t c_43 hf
              refine lv_aload_n hx hb dX4_whatIs_69 rfl (lv_at hl 0 rfl) ?_
              refine va_get (D := D) (ci := 4) (v := .ref (A 10)) (C := RX4) (T := TX4) (N := 8) hx hb hts hw4 hown hK hP 0 cX_at0 rfl 1 (by decide) k16 (fun _ h9 => h9) rfl dX4_whatIs_70 ?_
              refine va_get (D := D) (ci := 0) (v := .ref (A 14)) (C := RX0) (T := TX0) (N := 12) hx hb hts hw0 hown hK hP 10 cX_at10 rfl 5 (by decide) k95 (fun _ h9 => h9) rfl dX4_whatIs_73 ?_
              refine lv_iload_n hx hb dX4_whatIs_76 rfl (lv_at hl 1 rfl) ?_
              refine lv_iload hx hb dX4_whatIs_77 (lv_at hl 4 rfl) ?_
              obtain ⟨c_51, hf⟩ := gi_e hf
              refine va_iast hx hb hK hP hD hS 14 0 cX_at14 rfl c_51 dX4_whatIs_79 (fun H locs hP hD hS => ?_)
              obtain ⟨h_52, eh_52, hf⟩ := nq_e hf
              rw [cX_su14, ← eh_52] at hP hD
              refine lv_goto (tgt := 94) hx hb dX4_whatIs_80 (by decide) ?_
              refine lv_aload_n hx hb dX4_whatIs_94 rfl (lv_at hl 0 rfl) ?_
              refine lv_iload_n hx hb dX4_whatIs_95 rfl (lv_at hl 1 rfl) ?_
              obtain ⟨a_53, ha_53, hf⟩ := bd_e hf
              refine Ct.callV (As := [.int p1]) (rest := []) (st1 := [.int a_53.1]) (c_X4_rowTellsWordOf l D cI A n h_52 k g w z q p1 a_53 ha_53) hx hb hml hown hts (cwV 1 hts gX4_whatIs_X4_rowTellsWordOf rfl rfl rfl hd_X4_rowTellsWordOf ⟨Nat.le_of_ble_eq_true rfl, Nat.le_of_ble_eq_true rfl⟩) (va_recv hK hP (ci := 4) (q0 := 0) rfl cX_at0) (Ln.id rfl) hA hK hP hD hS rfl hl.1 rfl rfl (Nat.le_of_ble_eq_true rfl) dX4_whatIs_96 (fun H locs hP hD hS => ?_)
              replace hP : va_P D vwCl (cX cI A n a_53.2 k g w z q) H := hP
              replace hD : va_D AA (cX cI A n a_53.2 k g w z q) := hD
              refine lv_if_eq (tgt := 109) hx hb dX4_whatIs_99 (by decide) (fun c_54 => ?_) (fun c_54 => ?_)
              · replace hf := if_t c_54 hf
                obtain ⟨v_55, ev_55, hf⟩ := nq_e hf
                refine lv_iinc (v := v_55) (lv' := [(4, .int v_55), (0, .ref (A 0)), (1, .int p1), (2, .int p2), (3, .int q38.1)]) hx hb dX4_whatIs_109 hl (k := 4) rfl (by rw [ev_55]; rfl) (by decide) rfl (fun ls hl => ?_)
                refine lv_goto (tgt := 38) hx hb dX4_whatIs_112 (by decide) ?_
                exact ih38 (q38.1, v_55, a_53.2) hf H locs ls hP hD hS (lv_sub hl [1, 2, 3, 4, 0] rfl)
              · replace hf := if_f c_54 hf
                refine lv_iload_n hx hb dX4_whatIs_102 rfl (lv_at hl 3 rfl) ?_
                refine lv_iconst (v := 1) hx hb dX4_whatIs_103 (by decide) ?_
                refine lv_iload hx hb dX4_whatIs_104 (lv_at hl 4 rfl) ?_
                refine lv_ishl hx hb dX4_whatIs_106 ?_
                refine lv_ior hx hb dX4_whatIs_107 ?_
                refine lv_topi (fun v_56 ev_56 => ?_)
                replace hf := nm_at ev_56 hf
                refine lv_istore_n (lv' := [(3, .int v_56), (0, .ref (A 0)), (1, .int p1), (2, .int p2), (4, .int q38.2.1)]) hx hb dX4_whatIs_108 rfl hl (by decide) rfl (fun ls hl => ?_)
                obtain ⟨v_57, ev_57, hf⟩ := nq_e hf
                refine lv_iinc (v := v_57) (lv' := [(4, .int v_57), (3, .int v_56), (0, .ref (A 0)), (1, .int p1), (2, .int p2)]) hx hb dX4_whatIs_109 hl (k := 4) rfl (by rw [ev_57]; rfl) (by decide) rfl (fun ls hl => ?_)
                refine lv_goto (tgt := 38) hx hb dX4_whatIs_112 (by decide) ?_
                exact ih38 (v_56, v_57, a_53.2) hf H locs ls hP hD hS (lv_sub hl [2, 3, 4, 1, 0] rfl)
        · replace hf := if_t c_40 hf
          refine lv_bipush (v := 6) hx hb dX4_whatIs_44 (by decide +kernel) ?_
          refine lv_goto (tgt := 51) hx hb dX4_whatIs_46 (by decide) ?_
          refine lv_icmp_ge (tgt := 115) hx hb dX4_whatIs_51 (by decide) (fun c_58 => ?_) (fun c_58 => ?_)
          · replace hf := if_t c_58 hf
            refine lv_iload_n hx hb dX4_whatIs_115 rfl (lv_at hl 3 rfl) ?_
            exact hend (q38.1, q38.2.2, q) H locs _ _ hf hP hS dX4_whatIs_116
          · replace hf := if_f c_58 hf
            refine lv_aload_n hx hb dX4_whatIs_54 rfl (lv_at hl 0 rfl) ?_
            refine va_get (D := D) (ci := 4) (v := .ref (A 10)) (C := RX4) (T := TX4) (N := 8) hx hb hts hw4 hown hK hP 0 cX_at0 rfl 1 (by decide) k16 (fun _ h9 => h9) rfl dX4_whatIs_55 ?_
            refine lv_aload_n hx hb dX4_whatIs_58 rfl (lv_at hl 0 rfl) ?_
            refine va_get (D := D) (ci := 4) (v := .ref (A 1)) (C := RX4) (T := TX4) (N := 8) hx hb hts hw4 hown hK hP 0 cX_at0 rfl 0 (by decide) k10 (fun _ h9 => h9) rfl dX4_whatIs_59 ?_
            obtain ⟨a_59, ha_59, hf⟩ := bd_e hf
            refine Ct.callV (As := [.ref (A 1)]) (rest := []) (st1 := []) (c_X0_copyFrom l D cI (fun j => A (10 + j)) (fun j => A (1 + j)) q38.2.2 n a_59 ha_59) hx hb hml hown hts (cwV 1 hts gX4_whatIs_X0_copyFrom rfl rfl rfl hd_X0_copyFrom ⟨Nat.le_of_ble_eq_true rfl, Nat.le_of_ble_eq_true rfl⟩) (va_recv hK hP (ci := 0) (q0 := 10) rfl cX_at10) ln_X_HH_tn hA hK hP hD hS rfl hl.1 rfl rfl (Nat.le_of_ble_eq_true rfl) dX4_whatIs_62 (fun H locs hP hD hS => ?_)
            replace hP : va_P D vwCl (cX cI A n a_59 k g w z q) H := hP
            replace hD : va_D AA (cX cI A n a_59 k g w z q) := hD
            refine lv_iload_n hx hb dX4_whatIs_65 rfl (lv_at hl 2 rfl) ?_
            refine lv_if_ne (tgt := 83) hx hb dX4_whatIs_66 (by decide) (fun c_60 => ?_) (fun c_60 => ?_)
            · replace hf := if_f c_60 hf
              refine lv_aload_n hx hb dX4_whatIs_83 rfl (lv_at hl 0 rfl) ?_
              refine va_get (D := D) (ci := 4) (v := .ref (A 10)) (C := RX4) (T := TX4) (N := 8) hx hb hts hw4 hown hK hP 0 cX_at0 rfl 1 (by decide) k16 (fun _ h9 => h9) rfl dX4_whatIs_84 ?_
              refine va_get (D := D) (ci := 0) (v := .ref (A 15)) (C := RX0) (T := TX0) (N := 12) hx hb hts hw0 hown hK hP 10 cX_at10 rfl 6 (by decide) k98 (fun _ h9 => h9) rfl dX4_whatIs_87 ?_
              refine lv_iload_n hx hb dX4_whatIs_90 rfl (lv_at hl 1 rfl) ?_
              refine lv_iload hx hb dX4_whatIs_91 (lv_at hl 4 rfl) ?_
              obtain ⟨c_61, hf⟩ := gi_e hf
              refine va_iast hx hb hK hP hD hS 15 0 cX_at15 rfl c_61 dX4_whatIs_93 (fun H locs hP hD hS => ?_)
              obtain ⟨h_62, eh_62, hf⟩ := nq_e hf
              rw [cX_su15, ← eh_62] at hP hD
              refine lv_aload_n hx hb dX4_whatIs_94 rfl (lv_at hl 0 rfl) ?_
              refine lv_iload_n hx hb dX4_whatIs_95 rfl (lv_at hl 1 rfl) ?_
              obtain ⟨a_63, ha_63, hf⟩ := bd_e hf
              refine Ct.callV (As := [.int p1]) (rest := []) (st1 := [.int a_63.1]) (c_X4_rowTellsWordOf l D cI A n h_62 k g w z q p1 a_63 ha_63) hx hb hml hown hts (cwV 1 hts gX4_whatIs_X4_rowTellsWordOf rfl rfl rfl hd_X4_rowTellsWordOf ⟨Nat.le_of_ble_eq_true rfl, Nat.le_of_ble_eq_true rfl⟩) (va_recv hK hP (ci := 4) (q0 := 0) rfl cX_at0) (Ln.id rfl) hA hK hP hD hS rfl hl.1 rfl rfl (Nat.le_of_ble_eq_true rfl) dX4_whatIs_96 (fun H locs hP hD hS => ?_)
              replace hP : va_P D vwCl (cX cI A n a_63.2 k g w z q) H := hP
              replace hD : va_D AA (cX cI A n a_63.2 k g w z q) := hD
              refine lv_if_eq (tgt := 109) hx hb dX4_whatIs_99 (by decide) (fun c_64 => ?_) (fun c_64 => ?_)
              · replace hf := if_t c_64 hf
                obtain ⟨v_65, ev_65, hf⟩ := nq_e hf
                refine lv_iinc (v := v_65) (lv' := [(4, .int v_65), (0, .ref (A 0)), (1, .int p1), (2, .int p2), (3, .int q38.1)]) hx hb dX4_whatIs_109 hl (k := 4) rfl (by rw [ev_65]; rfl) (by decide) rfl (fun ls hl => ?_)
                refine lv_goto (tgt := 38) hx hb dX4_whatIs_112 (by decide) ?_
                exact ih38 (q38.1, v_65, a_63.2) hf H locs ls hP hD hS (lv_sub hl [1, 2, 3, 4, 0] rfl)
              · replace hf := if_f c_64 hf
                refine lv_iload_n hx hb dX4_whatIs_102 rfl (lv_at hl 3 rfl) ?_
                refine lv_iconst (v := 1) hx hb dX4_whatIs_103 (by decide) ?_
                refine lv_iload hx hb dX4_whatIs_104 (lv_at hl 4 rfl) ?_
                refine lv_ishl hx hb dX4_whatIs_106 ?_
                refine lv_ior hx hb dX4_whatIs_107 ?_
                refine lv_topi (fun v_66 ev_66 => ?_)
                replace hf := nm_at ev_66 hf
                refine lv_istore_n (lv' := [(3, .int v_66), (0, .ref (A 0)), (1, .int p1), (2, .int p2), (4, .int q38.2.1)]) hx hb dX4_whatIs_108 rfl hl (by decide) rfl (fun ls hl => ?_)
                obtain ⟨v_67, ev_67, hf⟩ := nq_e hf
                refine lv_iinc (v := v_67) (lv' := [(4, .int v_67), (3, .int v_66), (0, .ref (A 0)), (1, .int p1), (2, .int p2)]) hx hb dX4_whatIs_109 hl (k := 4) rfl (by rw [ev_67]; rfl) (by decide) rfl (fun ls hl => ?_)
                refine lv_goto (tgt := 38) hx hb dX4_whatIs_112 (by decide) ?_
                exact ih38 (v_66, v_67, a_63.2) hf H locs ls hP hD hS (lv_sub hl [2, 3, 4, 1, 0] rfl)
            · replace hf := if_t c_60 hf
              refine lv_aload_n hx hb dX4_whatIs_69 rfl (lv_at hl 0 rfl) ?_
              refine va_get (D := D) (ci := 4) (v := .ref (A 10)) (C := RX4) (T := TX4) (N := 8) hx hb hts hw4 hown hK hP 0 cX_at0 rfl 1 (by decide) k16 (fun _ h9 => h9) rfl dX4_whatIs_70 ?_
              refine va_get (D := D) (ci := 0) (v := .ref (A 14)) (C := RX0) (T := TX0) (N := 12) hx hb hts hw0 hown hK hP 10 cX_at10 rfl 5 (by decide) k95 (fun _ h9 => h9) rfl dX4_whatIs_73 ?_
              refine lv_iload_n hx hb dX4_whatIs_76 rfl (lv_at hl 1 rfl) ?_
              refine lv_iload hx hb dX4_whatIs_77 (lv_at hl 4 rfl) ?_
              obtain ⟨c_68, hf⟩ := gi_e hf
              refine va_iast hx hb hK hP hD hS 14 0 cX_at14 rfl c_68 dX4_whatIs_79 (fun H locs hP hD hS => ?_)
              obtain ⟨h_69, eh_69, hf⟩ := nq_e hf
              rw [cX_su14, ← eh_69] at hP hD
              refine lv_goto (tgt := 94) hx hb dX4_whatIs_80 (by decide) ?_
              refine lv_aload_n hx hb dX4_whatIs_94 rfl (lv_at hl 0 rfl) ?_
              refine lv_iload_n hx hb dX4_whatIs_95 rfl (lv_at hl 1 rfl) ?_
              obtain ⟨a_70, ha_70, hf⟩ := bd_e hf
              refine Ct.callV (As := [.int p1]) (rest := []) (st1 := [.int a_70.1]) (c_X4_rowTellsWordOf l D cI A n h_69 k g w z q p1 a_70 ha_70) hx hb hml hown hts (cwV 1 hts gX4_whatIs_X4_rowTellsWordOf rfl rfl rfl hd_X4_rowTellsWordOf ⟨Nat.le_of_ble_eq_true rfl, Nat.le_of_ble_eq_true rfl⟩) (va_recv hK hP (ci := 4) (q0 := 0) rfl cX_at0) (Ln.id rfl) hA hK hP hD hS rfl hl.1 rfl rfl (Nat.le_of_ble_eq_true rfl) dX4_whatIs_96 (fun H locs hP hD hS => ?_)
              replace hP : va_P D vwCl (cX cI A n a_70.2 k g w z q) H := hP
              replace hD : va_D AA (cX cI A n a_70.2 k g w z q) := hD
              refine lv_if_eq (tgt := 109) hx hb dX4_whatIs_99 (by decide) (fun c_71 => ?_) (fun c_71 => ?_)
              · replace hf := if_t c_71 hf
                obtain ⟨v_72, ev_72, hf⟩ := nq_e hf
                refine lv_iinc (v := v_72) (lv' := [(4, .int v_72), (0, .ref (A 0)), (1, .int p1), (2, .int p2), (3, .int q38.1)]) hx hb dX4_whatIs_109 hl (k := 4) rfl (by rw [ev_72]; rfl) (by decide) rfl (fun ls hl => ?_)
                refine lv_goto (tgt := 38) hx hb dX4_whatIs_112 (by decide) ?_
                exact ih38 (q38.1, v_72, a_70.2) hf H locs ls hP hD hS (lv_sub hl [1, 2, 3, 4, 0] rfl)
              · replace hf := if_f c_71 hf
                refine lv_iload_n hx hb dX4_whatIs_102 rfl (lv_at hl 3 rfl) ?_
                refine lv_iconst (v := 1) hx hb dX4_whatIs_103 (by decide) ?_
                refine lv_iload hx hb dX4_whatIs_104 (lv_at hl 4 rfl) ?_
                refine lv_ishl hx hb dX4_whatIs_106 ?_
                refine lv_ior hx hb dX4_whatIs_107 ?_
                refine lv_topi (fun v_73 ev_73 => ?_)
                replace hf := nm_at ev_73 hf
                refine lv_istore_n (lv' := [(3, .int v_73), (0, .ref (A 0)), (1, .int p1), (2, .int p2), (4, .int q38.2.1)]) hx hb dX4_whatIs_108 rfl hl (by decide) rfl (fun ls hl => ?_)
                obtain ⟨v_74, ev_74, hf⟩ := nq_e hf
                refine lv_iinc (v := v_74) (lv' := [(4, .int v_74), (3, .int v_73), (0, .ref (A 0)), (1, .int p1), (2, .int p2)]) hx hb dX4_whatIs_109 hl (k := 4) rfl (by rw [ev_74]; rfl) (by decide) rfl (fun ls hl => ?_)
                refine lv_goto (tgt := 38) hx hb dX4_whatIs_112 (by decide) ?_
                exact ih38 (v_73, v_74, a_70.2) hf H locs ls hP hD hS (lv_sub hl [2, 3, 4, 1, 0] rfl)
      · replace hf := if_f c_39 hf
        refine lv_aload_n hx hb dX4_whatIs_26 rfl (lv_at hl 0 rfl) ?_
        refine lv_bipush (v := -2) hx hb dX4_whatIs_27 (by decide +kernel) ?_
        obtain ⟨a_75, ha_75, hf⟩ := bd_e hf
        refine Ct.callV (As := [.int (-2 : Int32)]) (rest := []) (st1 := [.int a_75.1]) (c_X4_refused l D cI A n t k g w z q (-2 : Int32) a_75 ha_75) hx hb hml hown hts (cwV 1 hts gX4_whatIs_X4_refused rfl rfl rfl hd_X4_refused ⟨Nat.le_of_ble_eq_true rfl, Nat.le_of_ble_eq_true rfl⟩) (va_recv hK hP (ci := 4) (q0 := 0) rfl cX_at0) (Ln.id rfl) hA hK hP hD hS rfl hl.1 rfl rfl (Nat.le_of_ble_eq_true rfl) dX4_whatIs_29 (fun H locs hP hD hS => ?_)
        replace hP : va_P D vwCl (cX cI A n t k g w z a_75.2) H := hP
        replace hD : va_D AA (cX cI A n t k g w z a_75.2) := hD
        exact hend (a_75.1, t, a_75.2) H locs _ _ hf hP hS dX4_whatIs_32
  · replace hf := if_t c_2 hf
    refine lv_aload_n hx hb dX4_whatIs_11 rfl (lv_at hl 0 rfl) ?_
    refine lv_iconst (v := -1) hx hb dX4_whatIs_12 (by decide) ?_
    obtain ⟨a_76, ha_76, hf⟩ := bd_e hf
    refine Ct.callV (As := [.int (-1 : Int32)]) (rest := []) (st1 := [.int a_76.1]) (c_X4_refused l D cI A n t k g w z q (-1 : Int32) a_76 ha_76) hx hb hml hown hts (cwV 1 hts gX4_whatIs_X4_refused rfl rfl rfl hd_X4_refused ⟨Nat.le_of_ble_eq_true rfl, Nat.le_of_ble_eq_true rfl⟩) (va_recv hK hP (ci := 4) (q0 := 0) rfl cX_at0) (Ln.id rfl) hA hK hP hD hS rfl hl.1 rfl rfl (Nat.le_of_ble_eq_true rfl) dX4_whatIs_13 (fun H locs hP hD hS => ?_)
    replace hP : va_P D vwCl (cX cI A n t k g w z a_76.2) H := hP
    replace hD : va_D AA (cX cI A n t k g w z a_76.2) := hD
    exact hend (a_76.1, t, a_76.2) H locs _ _ hf hP hS dX4_whatIs_16

def rm_X4_row : Room := { frames := 1, cells := 0, slots := 0, locals := 22 }
theorem hd_X4_row : yX4_row.cls = RX4 ∧ yX4_row.cls ≠ "java/lang/invoke/MethodHandle" ∧ yX4_row.cls ≠ "java/lang/invoke/VarHandle" ∧ (parseMethodDescriptor yX4_row.desc).map (fun d => d.parameters.length) = some 1 := by decide +kernel
set_option maxRecDepth 100000 in
set_option maxHeartbeats 4000000 in
theorem c_X4_row (l : Launch) (D : va_G) (cI : ClassId) (A : Nat → Nat) (n : St) (t : St) (k : St) (g : St) (w : St) (z : St) (q : St) (p1 : Int32) (r : Int32 × St × St) (hf : f_X4_row n t k g w z q p1 = some r) : Ct l yX4_row wsX4_row rm_X4_row D cI (cX cI A n t k g w z q) (cX cI A n t k g r.2.1 z r.2.2) [.ref (A 0), .int p1] (some (.int r.1)) := by
  unfold f_X4_row at hf
  refine Ct.ofI (cc := cX4_row) (maxL := 2) (by decide +kernel) rfl (Nat.le_of_ble_eq_true rfl) ?_
  intro p e s m args below meth c AA Q H locs ls hx hb hml hown hts hA hK hP hD hS hl hend0
  have hend : ∀ (r1 : Int32 × St × St) (H : Heap) (locs : List Loc) (pc : Nat) (ls : Array Slot), some r1 = some r → va_P D vwCl (cX cI A n t k g r1.2.1 z r1.2.2) H → va_S AA s.heap H locs → decode cX4_row pc = .ok (.ireturn, 1) → W p l e rm_X4_row s m args below meth c H locs 0 0 Q (F0 m pc ls [.int r1.1]) := by
    intro r1 H locs pc ls e1 hP hS hd; cases e1; exact hend0 H locs pc ls hP hS hd
  clear hend0
  have hw4 : ∀ w ∈ wsX40, w ∈ wsX4_row := by decide +kernel
  have k32 := hts (.fieldLink RX4 32 "AnchorsForConfession" "told" "LAnchorsForConfession$Row;") (by decide +kernel)
  replace hl : lv_has ls 2 [(0, .ref (A 0)), (1, .int p1)] := hl
  refine lv_iload_n hx hb dX4_row_0 rfl (lv_at hl 1 rfl) ?_
  refine lv_if_ge (tgt := 11) hx hb dX4_row_1 (by decide) (fun c_1 => ?_) (fun c_1 => ?_)
  · replace hf := if_t c_1 hf
    refine lv_iload_n hx hb dX4_row_11 rfl (lv_at hl 1 rfl) ?_
    refine lv_bipush (v := 99) hx hb dX4_row_12 (by decide +kernel) ?_
    refine lv_icmp_gt (tgt := 27) hx hb dX4_row_14 (by decide) (fun c_2 => ?_) (fun c_2 => ?_)
    · replace hf := if_t c_2 hf
      refine lv_aload_n hx hb dX4_row_27 rfl (lv_at hl 0 rfl) ?_
      refine lv_bipush (v := -6) hx hb dX4_row_28 (by decide +kernel) ?_
      obtain ⟨a_3, ha_3, hf⟩ := bd_e hf
      refine Ct.callV (As := [.int (-6 : Int32)]) (rest := []) (st1 := [.int a_3.1]) (c_X4_refused l D cI A n t k g w z q (-6 : Int32) a_3 ha_3) hx hb hml hown hts (cwV 1 hts gX4_row_X4_refused rfl rfl rfl hd_X4_refused ⟨Nat.le_of_ble_eq_true rfl, Nat.le_of_ble_eq_true rfl⟩) (va_recv hK hP (ci := 4) (q0 := 0) rfl cX_at0) (Ln.id rfl) hA hK hP hD hS rfl hl.1 rfl rfl (Nat.le_of_ble_eq_true rfl) dX4_row_30 (fun H locs hP hD hS => ?_)
      replace hP : va_P D vwCl (cX cI A n t k g w z a_3.2) H := hP
      replace hD : va_D AA (cX cI A n t k g w z a_3.2) := hD
      exact hend (a_3.1, w, a_3.2) H locs _ _ hf hP hS dX4_row_33
    · replace hf := if_f c_2 hf
      refine lv_aload_n hx hb dX4_row_17 rfl (lv_at hl 0 rfl) ?_
      refine va_get (D := D) (ci := 4) (v := .ref (A 30)) (C := RX4) (T := TX4) (N := 8) hx hb hts hw4 hown hK hP 0 cX_at0 rfl 4 (by decide) k32 (fun _ h9 => h9) rfl dX4_row_18 ?_
      obtain ⟨a_4, ha_4, hf⟩ := bd_e hf
      refine Ct.callV (As := []) (rest := []) (st1 := [.int a_4]) (c_X3_isFull l D cI (fun j => A (30 + j)) w a_4 ha_4) hx hb hml hown hts (cwV 0 hts gX4_row_X3_isFull rfl rfl rfl hd_X3_isFull ⟨Nat.le_of_ble_eq_true rfl, Nat.le_of_ble_eq_true rfl⟩) (va_recv hK hP (ci := 3) (q0 := 30) rfl cX_at30) ln_X_R hA hK hP hD hS rfl hl.1 rfl rfl (Nat.le_of_ble_eq_true rfl) dX4_row_21 (fun H locs hP hD hS => ?_)
      refine lv_if_eq (tgt := 34) hx hb dX4_row_24 (by decide) (fun c_5 => ?_) (fun c_5 => ?_)
      · replace hf := if_t c_5 hf
        refine lv_aload_n hx hb dX4_row_34 rfl (lv_at hl 0 rfl) ?_
        refine va_get (D := D) (ci := 4) (v := .ref (A 30)) (C := RX4) (T := TX4) (N := 8) hx hb hts hw4 hown hK hP 0 cX_at0 rfl 4 (by decide) k32 (fun _ h9 => h9) rfl dX4_row_35 ?_
        refine lv_iload_n hx hb dX4_row_38 rfl (lv_at hl 1 rfl) ?_
        obtain ⟨a_6, ha_6, hf⟩ := bd_e hf
        refine Ct.callV (As := [.int p1]) (rest := []) (st1 := [.int a_6.1]) (c_X3_add l D cI (fun j => A (30 + j)) w p1 a_6 ha_6) hx hb hml hown hts (cwV 1 hts gX4_row_X3_add rfl rfl rfl hd_X3_add ⟨Nat.le_of_ble_eq_true rfl, Nat.le_of_ble_eq_true rfl⟩) (va_recv hK hP (ci := 3) (q0 := 30) rfl cX_at30) ln_X_R hA hK hP hD hS rfl hl.1 rfl rfl (Nat.le_of_ble_eq_true rfl) dX4_row_39 (fun H locs hP hD hS => ?_)
        replace hP : va_P D vwCl (cX cI A n t k g a_6.2 z q) H := hP
        replace hD : va_D AA (cX cI A n t k g a_6.2 z q) := hD
        exact hend (a_6.1, a_6.2, q) H locs _ _ hf hP hS dX4_row_42
      · replace hf := if_f c_5 hf
        refine lv_aload_n hx hb dX4_row_27 rfl (lv_at hl 0 rfl) ?_
        refine lv_bipush (v := -6) hx hb dX4_row_28 (by decide +kernel) ?_
        obtain ⟨a_7, ha_7, hf⟩ := bd_e hf
        refine Ct.callV (As := [.int (-6 : Int32)]) (rest := []) (st1 := [.int a_7.1]) (c_X4_refused l D cI A n t k g w z q (-6 : Int32) a_7 ha_7) hx hb hml hown hts (cwV 1 hts gX4_row_X4_refused rfl rfl rfl hd_X4_refused ⟨Nat.le_of_ble_eq_true rfl, Nat.le_of_ble_eq_true rfl⟩) (va_recv hK hP (ci := 4) (q0 := 0) rfl cX_at0) (Ln.id rfl) hA hK hP hD hS rfl hl.1 rfl rfl (Nat.le_of_ble_eq_true rfl) dX4_row_30 (fun H locs hP hD hS => ?_)
        replace hP : va_P D vwCl (cX cI A n t k g w z a_7.2) H := hP
        replace hD : va_D AA (cX cI A n t k g w z a_7.2) := hD
        exact hend (a_7.1, w, a_7.2) H locs _ _ hf hP hS dX4_row_33
  · replace hf := if_f c_1 hf
    refine lv_aload_n hx hb dX4_row_4 rfl (lv_at hl 0 rfl) ?_
    refine lv_bipush (v := -4) hx hb dX4_row_5 (by decide +kernel) ?_
    obtain ⟨a_8, ha_8, hf⟩ := bd_e hf
    refine Ct.callV (As := [.int (-4 : Int32)]) (rest := []) (st1 := [.int a_8.1]) (c_X4_refused l D cI A n t k g w z q (-4 : Int32) a_8 ha_8) hx hb hml hown hts (cwV 1 hts gX4_row_X4_refused rfl rfl rfl hd_X4_refused ⟨Nat.le_of_ble_eq_true rfl, Nat.le_of_ble_eq_true rfl⟩) (va_recv hK hP (ci := 4) (q0 := 0) rfl cX_at0) (Ln.id rfl) hA hK hP hD hS rfl hl.1 rfl rfl (Nat.le_of_ble_eq_true rfl) dX4_row_7 (fun H locs hP hD hS => ?_)
    replace hP : va_P D vwCl (cX cI A n t k g w z a_8.2) H := hP
    replace hD : va_D AA (cX cI A n t k g w z a_8.2) := hD
    exact hend (a_8.1, w, a_8.2) H locs _ _ hf hP hS dX4_row_10

def rm_X4_judge : Room := { frames := 3, cells := 0, slots := 0, locals := 64 }
theorem hd_X4_judge : yX4_judge.cls = RX4 ∧ yX4_judge.cls ≠ "java/lang/invoke/MethodHandle" ∧ yX4_judge.cls ≠ "java/lang/invoke/VarHandle" ∧ (parseMethodDescriptor yX4_judge.desc).map (fun d => d.parameters.length) = some 0 := by decide +kernel
set_option maxRecDepth 100000 in
set_option maxHeartbeats 4000000 in
theorem c_X4_judge (l : Launch) (D : va_G) (cI : ClassId) (A : Nat → Nat) (n : St) (t : St) (k : St) (g : St) (w : St) (z : St) (q : St) (r : Int32 × St) (hf : f_X4_judge n t k g w z q = some r) : Ct l yX4_judge wsX4_judge rm_X4_judge D cI (cX cI A n t k g w z q) (cX cI A n t k g r.2 z q) [.ref (A 0)] (some (.int r.1)) := by
  unfold f_X4_judge at hf
  refine Ct.ofI (cc := cX4_judge) (maxL := 2) (by decide +kernel) rfl (Nat.le_of_ble_eq_true rfl) ?_
  intro p e s m args below meth c AA Q H locs ls hx hb hml hown hts hA hK hP hD hS hl hend0
  have hend : ∀ (r1 : Int32 × St) (H : Heap) (locs : List Loc) (pc : Nat) (ls : Array Slot), some r1 = some r → va_P D vwCl (cX cI A n t k g r1.2 z q) H → va_S AA s.heap H locs → decode cX4_judge pc = .ok (.ireturn, 1) → W p l e rm_X4_judge s m args below meth c H locs 0 0 Q (F0 m pc ls [.int r1.1]) := by
    intro r1 H locs pc ls e1 hP hS hd; cases e1; exact hend0 H locs pc ls hP hS hd
  clear hend0
  have hw4 : ∀ w ∈ wsX40, w ∈ wsX4_judge := by decide +kernel
  have k10 := hts (.fieldLink RX4 10 "AnchorsForConfession" "now" "LAnchorsForConfession$Harbour;") (by decide +kernel)
  have k32 := hts (.fieldLink RX4 32 "AnchorsForConfession" "told" "LAnchorsForConfession$Row;") (by decide +kernel)
  replace hl : lv_has ls 2 [(0, .ref (A 0))] := hl
  refine lv_aload_n hx hb dX4_judge_0 rfl (lv_at hl 0 rfl) ?_
  refine va_get (D := D) (ci := 4) (v := .ref (A 30)) (C := RX4) (T := TX4) (N := 8) hx hb hts hw4 hown hK hP 0 cX_at0 rfl 4 (by decide) k32 (fun _ h9 => h9) rfl dX4_judge_1 ?_
  refine lv_aload_n hx hb dX4_judge_4 rfl (lv_at hl 0 rfl) ?_
  refine va_get (D := D) (ci := 4) (v := .ref (A 1)) (C := RX4) (T := TX4) (N := 8) hx hb hts hw4 hown hK hP 0 cX_at0 rfl 0 (by decide) k10 (fun _ h9 => h9) rfl dX4_judge_5 ?_
  obtain ⟨a_1, ha_1, hf⟩ := bd_e hf
  refine Ct.callV (As := [.ref (A 1)]) (rest := []) (st1 := [.int a_1]) (c_X3_firstNotHeldAsIn l D cI (fun j => A (30 + j)) (fun j => A (1 + j)) w n a_1 ha_1) hx hb hml hown hts (cwV 1 hts gX4_judge_X3_firstNotHeldAsIn rfl rfl rfl hd_X3_firstNotHeldAsIn ⟨Nat.le_of_ble_eq_true rfl, Nat.le_of_ble_eq_true rfl⟩) (va_recv hK hP (ci := 3) (q0 := 30) rfl cX_at30) ln_X_RH_n hA hK hP hD hS rfl hl.1 rfl rfl (Nat.le_of_ble_eq_true rfl) dX4_judge_8 (fun H locs hP hD hS => ?_)
  refine lv_istore_n (lv' := [(1, .int a_1), (0, .ref (A 0))]) hx hb dX4_judge_11 rfl hl (by decide) rfl (fun ls hl => ?_)
  refine lv_aload_n hx hb dX4_judge_12 rfl (lv_at hl 1 rfl) ?_
  refine va_get (D := D) (ci := 4) (v := .ref (A 30)) (C := RX4) (T := TX4) (N := 8) hx hb hts hw4 hown hK hP 0 cX_at0 rfl 4 (by decide) k32 (fun _ h9 => h9) rfl dX4_judge_13 ?_
  obtain ⟨a_2, ha_2, hf⟩ := bd_e hf
  refine Ct.callV (As := []) (rest := []) (st1 := [.int a_2.1]) (c_X3_drop l D cI (fun j => A (30 + j)) w a_2 ha_2) hx hb hml hown hts (cwV 0 hts gX4_judge_X3_drop rfl rfl rfl hd_X3_drop ⟨Nat.le_of_ble_eq_true rfl, Nat.le_of_ble_eq_true rfl⟩) (va_recv hK hP (ci := 3) (q0 := 30) rfl cX_at30) ln_X_R hA hK hP hD hS rfl hl.1 rfl rfl (Nat.le_of_ble_eq_true rfl) dX4_judge_16 (fun H locs hP hD hS => ?_)
  replace hP : va_P D vwCl (cX cI A n t k g a_2.2 z q) H := hP
  replace hD : va_D AA (cX cI A n t k g a_2.2 z q) := hD
  refine lv_pop hx hb dX4_judge_19 rfl ?_
  refine lv_iload_n hx hb dX4_judge_20 rfl (lv_at hl 0 rfl) ?_
  exact hend (a_1, a_2.2) H locs _ _ hf hP hS dX4_judge_21

def rm_X4_clear : Room := { frames := 1, cells := 0, slots := 0, locals := 21 }
theorem hd_X4_clear : yX4_clear.cls = RX4 ∧ yX4_clear.cls ≠ "java/lang/invoke/MethodHandle" ∧ yX4_clear.cls ≠ "java/lang/invoke/VarHandle" ∧ (parseMethodDescriptor yX4_clear.desc).map (fun d => d.parameters.length) = some 0 := by decide +kernel
set_option maxRecDepth 100000 in
set_option maxHeartbeats 4000000 in
theorem c_X4_clear (l : Launch) (D : va_G) (cI : ClassId) (A : Nat → Nat) (n : St) (t : St) (k : St) (g : St) (w : St) (z : St) (q : St) (r : Int32 × St) (hf : f_X4_clear n t k g w z q = some r) : Ct l yX4_clear wsX4_clear rm_X4_clear D cI (cX cI A n t k g w z q) (cX cI A n t k g r.2 z q) [.ref (A 0)] (some (.int r.1)) := by
  unfold f_X4_clear at hf
  refine Ct.ofI (cc := cX4_clear) (maxL := 1) (by decide +kernel) rfl (Nat.le_of_ble_eq_true rfl) ?_
  intro p e s m args below meth c AA Q H locs ls hx hb hml hown hts hA hK hP hD hS hl hend0
  have hend : ∀ (r1 : Int32 × St) (H : Heap) (locs : List Loc) (pc : Nat) (ls : Array Slot), some r1 = some r → va_P D vwCl (cX cI A n t k g r1.2 z q) H → va_S AA s.heap H locs → decode cX4_clear pc = .ok (.ireturn, 1) → W p l e rm_X4_clear s m args below meth c H locs 0 0 Q (F0 m pc ls [.int r1.1]) := by
    intro r1 H locs pc ls e1 hP hS hd; cases e1; exact hend0 H locs pc ls hP hS hd
  clear hend0
  have hw4 : ∀ w ∈ wsX40, w ∈ wsX4_clear := by decide +kernel
  have k32 := hts (.fieldLink RX4 32 "AnchorsForConfession" "told" "LAnchorsForConfession$Row;") (by decide +kernel)
  replace hl : lv_has ls 1 [(0, .ref (A 0))] := hl
  refine lv_aload_n hx hb dX4_clear_0 rfl (lv_at hl 0 rfl) ?_
  refine va_get (D := D) (ci := 4) (v := .ref (A 30)) (C := RX4) (T := TX4) (N := 8) hx hb hts hw4 hown hK hP 0 cX_at0 rfl 4 (by decide) k32 (fun _ h9 => h9) rfl dX4_clear_1 ?_
  obtain ⟨a_1, ha_1, hf⟩ := bd_e hf
  refine Ct.callV (As := []) (rest := []) (st1 := [.int a_1.1]) (c_X3_drop l D cI (fun j => A (30 + j)) w a_1 ha_1) hx hb hml hown hts (cwV 0 hts gX4_clear_X3_drop rfl rfl rfl hd_X3_drop ⟨Nat.le_of_ble_eq_true rfl, Nat.le_of_ble_eq_true rfl⟩) (va_recv hK hP (ci := 3) (q0 := 30) rfl cX_at30) ln_X_R hA hK hP hD hS rfl hl.1 rfl rfl (Nat.le_of_ble_eq_true rfl) dX4_clear_4 (fun H locs hP hD hS => ?_)
  replace hP : va_P D vwCl (cX cI A n t k g a_1.2 z q) H := hP
  replace hD : va_D AA (cX cI A n t k g a_1.2 z q) := hD
  exact hend (a_1.1, a_1.2) H locs _ _ hf hP hS dX4_clear_7

def rm_X4_season : Room := { frames := 4, cells := 0, slots := 0, locals := 89 }
theorem hd_X4_season : yX4_season.cls = RX4 ∧ yX4_season.cls ≠ "java/lang/invoke/MethodHandle" ∧ yX4_season.cls ≠ "java/lang/invoke/VarHandle" ∧ (parseMethodDescriptor yX4_season.desc).map (fun d => d.parameters.length) = some 0 := by decide +kernel
set_option maxRecDepth 100000 in
set_option maxHeartbeats 4000000 in
theorem c_X4_season (l : Launch) (D : va_G) (cI : ClassId) (A : Nat → Nat) (n : St) (t : St) (k : St) (g : St) (w : St) (z : St) (q : St) (r : Int32 × St × St) (hf : f_X4_season n t k g w z q = some r) : Ct l yX4_season wsX4_season rm_X4_season D cI (cX cI A n t k g w z q) (cX cI A n r.2.1 k g w r.2.2 q) [.ref (A 0)] (some (.int r.1)) := by
  unfold f_X4_season at hf
  refine Ct.ofI (cc := cX4_season) (maxL := 3) (by decide +kernel) rfl (Nat.le_of_ble_eq_true rfl) ?_
  intro p e s m args below meth c AA Q H locs ls hx hb hml hown hts hA hK hP hD hS hl hend0
  have hend : ∀ (r1 : Int32 × St × St) (H : Heap) (locs : List Loc) (pc : Nat) (ls : Array Slot), some r1 = some r → va_P D vwCl (cX cI A n r1.2.1 k g w r1.2.2 q) H → va_S AA s.heap H locs → decode cX4_season pc = .ok (.ireturn, 1) → W p l e rm_X4_season s m args below meth c H locs 0 0 Q (F0 m pc ls [.int r1.1]) := by
    intro r1 H locs pc ls e1 hP hS hd; cases e1; exact hend0 H locs pc ls hP hS hd
  clear hend0
  have hw0 : ∀ w ∈ wsX00, w ∈ wsX4_season := by decide +kernel
  have hw4 : ∀ w ∈ wsX40, w ∈ wsX4_season := by decide +kernel
  have k16 := hts (.fieldLink RX4 16 "AnchorsForConfession" "thought" "LAnchorsForConfession$Harbour;") (by decide +kernel)
  have k39 := hts (.fieldLink RX4 39 "AnchorsForConfession" "lot" "LAnchorsForConfession$Lot;") (by decide +kernel)
  have k155 := hts (.fieldLink RX4 155 "AnchorsForConfession$Harbour" "men" "I") (by decide +kernel)
  replace hl : lv_has ls 3 [(0, .ref (A 0))] := hl
  refine lv_iconst (v := 0) hx hb dX4_season_0 (by decide) ?_
  refine lv_istore_n (lv' := [(1, .int (0 : Int32)), (0, .ref (A 0))]) hx hb dX4_season_1 rfl hl (by decide) rfl (fun ls hl => ?_)
  refine lv_iconst (v := 0) hx hb dX4_season_2 (by decide) ?_
  refine lv_istore_n (lv' := [(2, .int (0 : Int32)), (1, .int (0 : Int32)), (0, .ref (A 0))]) hx hb dX4_season_3 rfl hl (by decide) rfl (fun ls hl => ?_)
  refine lp_ind (P := fun (q4 : Int32 × Int32 × St × St) => ∀ (H : Heap) (locs : List Loc) (ls : Array Slot), va_P D vwCl (cX cI A n q4.2.2.1 k g w q4.2.2.2 q) H → va_D AA (cX cI A n q4.2.2.1 k g w q4.2.2.2 q) → va_S AA s.heap H locs → lv_has ls 3 [(0, .ref (A 0)), (1, .int q4.1), (2, .int q4.2.1)] → W p l e rm_X4_season s m args below meth c H locs 0 0 Q (F0 m 4 ls [])) hf ?_ H locs ls hP hD hS (lv_sub hl [2, 1, 0] rfl)
  clear hf hP hD hS hl
  intro nx4 ih4 q4 hf H locs ls hP hD hS hl
  refine lv_iload_n hx hb dX4_season_4 rfl (lv_at hl 2 rfl) ?_
  refine lv_bipush (v := 12) hx hb dX4_season_5 (by decide +kernel) ?_
  refine lv_icmp_ge (tgt := 48) hx hb dX4_season_7 (by decide) (fun c_1 => ?_) (fun c_1 => ?_)
  · replace hf := if_t c_1 hf
    refine lv_iload_n hx hb dX4_season_48 rfl (lv_at hl 1 rfl) ?_
    exact hend (q4.1, q4.2.2.1, q4.2.2.2) H locs _ _ hf hP hS dX4_season_49
  · replace hf := if_f c_1 hf
    refine lv_iload_n hx hb dX4_season_10 rfl (lv_at hl 1 rfl) ?_
    refine lv_aload_n hx hb dX4_season_11 rfl (lv_at hl 0 rfl) ?_
    refine va_get (D := D) (ci := 4) (v := .ref (A 10)) (C := RX4) (T := TX4) (N := 8) hx hb hts hw4 hown hK hP 0 cX_at0 rfl 1 (by decide) k16 (fun _ h9 => h9) rfl dX4_season_12 ?_
    refine lv_aload_n hx hb dX4_season_15 rfl (lv_at hl 0 rfl) ?_
    refine va_get (D := D) (ci := 4) (v := .ref (A 32)) (C := RX4) (T := TX4) (N := 8) hx hb hts hw4 hown hK hP 0 cX_at0 rfl 5 (by decide) k39 (fun _ h9 => h9) rfl dX4_season_16 ?_
    refine lv_aload_n hx hb dX4_season_19 rfl (lv_at hl 0 rfl) ?_
    refine va_get (D := D) (ci := 4) (v := .ref (A 10)) (C := RX4) (T := TX4) (N := 8) hx hb hts hw4 hown hK hP 0 cX_at0 rfl 1 (by decide) k16 (fun _ h9 => h9) rfl dX4_season_20 ?_
    refine va_get (D := D) (ci := 0) (v := .int (q4.2.2.1 16 1)) (C := RX0) (T := TX0) (N := 12) hx hb hts hw0 hown hK hP 10 cX_at10 rfl 4 (by decide) k155 (fun _ h9 => h9) rfl dX4_season_23 ?_
    obtain ⟨a_2, ha_2, hf⟩ := bd_e hf
    refine Ct.callV (As := [.int (q4.2.2.1 16 1)]) (rest := [.ref (A 10), .int q4.1]) (st1 := [.int a_2.1, .ref (A 10), .int q4.1]) (c_X2_drawBelow l D cI (fun j => A (32 + j)) q4.2.2.2 (q4.2.2.1 16 1) a_2 ha_2) hx hb hml hown hts (cwV 1 hts gX4_season_X2_drawBelow rfl rfl rfl hd_X2_drawBelow ⟨Nat.le_of_ble_eq_true rfl, Nat.le_of_ble_eq_true rfl⟩) (va_recv hK hP (ci := 2) (q0 := 32) rfl cX_at32) ln_X_Z hA hK hP hD hS rfl hl.1 rfl rfl (Nat.le_of_ble_eq_true rfl) dX4_season_26 (fun H locs hP hD hS => ?_)
    replace hP : va_P D vwCl (cX cI A n q4.2.2.1 k g w a_2.2 q) H := hP
    replace hD : va_D AA (cX cI A n q4.2.2.1 k g w a_2.2 q) := hD
    obtain ⟨a_3, ha_3, hf⟩ := bd_e hf
    refine Ct.callV (As := [.int a_2.1]) (rest := [.int q4.1]) (st1 := [.int a_3.1, .int q4.1]) (c_X0_word l D cI (fun j => A (10 + j)) q4.2.2.1 a_2.1 a_3 ha_3) hx hb hml hown hts (cwV 1 hts gX4_season_X0_word rfl rfl rfl hd_X0_word ⟨Nat.le_of_ble_eq_true rfl, Nat.le_of_ble_eq_true rfl⟩) (va_recv hK hP (ci := 0) (q0 := 10) rfl cX_at10) ln_X_H_t hA hK hP hD hS rfl hl.1 rfl rfl (Nat.le_of_ble_eq_true rfl) dX4_season_29 (fun H locs hP hD hS => ?_)
    replace hP : va_P D vwCl (cX cI A n a_3.2 k g w a_2.2 q) H := hP
    replace hD : va_D AA (cX cI A n a_3.2 k g w a_2.2 q) := hD
    refine lv_iadd hx hb dX4_season_32 ?_
    refine lv_topi (fun v_4 ev_4 => ?_)
    replace hf := nm_at ev_4 hf
    refine lv_istore_n (lv' := [(1, .int v_4), (0, .ref (A 0)), (2, .int q4.2.1)]) hx hb dX4_season_33 rfl hl (by decide) rfl (fun ls hl => ?_)
    refine lv_aload_n hx hb dX4_season_34 rfl (lv_at hl 1 rfl) ?_
    refine va_get (D := D) (ci := 4) (v := .ref (A 10)) (C := RX4) (T := TX4) (N := 8) hx hb hts hw4 hown hK hP 0 cX_at0 rfl 1 (by decide) k16 (fun _ h9 => h9) rfl dX4_season_35 ?_
    refine lv_iconst (v := 1) hx hb dX4_season_38 (by decide) ?_
    obtain ⟨a_5, ha_5, hf⟩ := bd_e hf
    refine Ct.callV (As := [.int (1 : Int32)]) (rest := []) (st1 := []) (c_X0_passTides l D cI (fun j => A (10 + j)) a_3.2 (1 : Int32) a_5 ha_5) hx hb hml hown hts (cwV 1 hts gX4_season_X0_passTides rfl rfl rfl hd_X0_passTides ⟨Nat.le_of_ble_eq_true rfl, Nat.le_of_ble_eq_true rfl⟩) (va_recv hK hP (ci := 0) (q0 := 10) rfl cX_at10) ln_X_H_t hA hK hP hD hS rfl hl.1 rfl rfl (Nat.le_of_ble_eq_true rfl) dX4_season_39 (fun H locs hP hD hS => ?_)
    replace hP : va_P D vwCl (cX cI A n a_5 k g w a_2.2 q) H := hP
    replace hD : va_D AA (cX cI A n a_5 k g w a_2.2 q) := hD
    obtain ⟨v_6, ev_6, hf⟩ := nq_e hf
    refine lv_iinc (v := v_6) (lv' := [(2, .int v_6), (1, .int v_4), (0, .ref (A 0))]) hx hb dX4_season_42 hl (k := 2) rfl (by rw [ev_6]; rfl) (by decide) rfl (fun ls hl => ?_)
    refine lv_goto (tgt := 4) hx hb dX4_season_45 (by decide) ?_
    exact ih4 (v_4, v_6, a_5, a_2.2) hf H locs ls hP hD hS (lv_sub hl [2, 1, 0] rfl)

def rm_X4_lots : Room := { frames := 5, cells := 0, slots := 0, locals := 111 }
theorem hd_X4_lots : yX4_lots.cls = RX4 ∧ yX4_lots.cls ≠ "java/lang/invoke/MethodHandle" ∧ yX4_lots.cls ≠ "java/lang/invoke/VarHandle" ∧ (parseMethodDescriptor yX4_lots.desc).map (fun d => d.parameters.length) = some 3 := by decide +kernel
set_option maxRecDepth 100000 in
set_option maxHeartbeats 4000000 in
theorem c_X4_lots (l : Launch) (D : va_G) (cI : ClassId) (A : Nat → Nat) (n : St) (t : St) (k : St) (g : St) (w : St) (z : St) (q : St) (p1 : Int32) (p2 : Int32) (p3 : Int32) (r : Int32 × St × St × St) (hf : f_X4_lots n t k g w z q p1 p2 p3 = some r) : Ct l yX4_lots wsX4_lots rm_X4_lots D cI (cX cI A n t k g w z q) (cX cI A n r.2.1 k g w r.2.2.1 r.2.2.2) [.ref (A 0), .int p1, .int p2, .int p3] (some (.int r.1)) := by
  unfold f_X4_lots at hf
  refine Ct.ofI (cc := cX4_lots) (maxL := 7) (by decide +kernel) rfl (Nat.le_of_ble_eq_true rfl) ?_
  intro p e s m args below meth c AA Q H locs ls hx hb hml hown hts hA hK hP hD hS hl hend0
  have hend : ∀ (r1 : Int32 × St × St × St) (H : Heap) (locs : List Loc) (pc : Nat) (ls : Array Slot), some r1 = some r → va_P D vwCl (cX cI A n r1.2.1 k g w r1.2.2.1 r1.2.2.2) H → va_S AA s.heap H locs → decode cX4_lots pc = .ok (.ireturn, 1) → W p l e rm_X4_lots s m args below meth c H locs 0 0 Q (F0 m pc ls [.int r1.1]) := by
    intro r1 H locs pc ls e1 hP hS hd; cases e1; exact hend0 H locs pc ls hP hS hd
  clear hend0
  have hw0 : ∀ w ∈ wsX00, w ∈ wsX4_lots := by decide +kernel
  have hw2 : ∀ w ∈ wsX20, w ∈ wsX4_lots := by decide +kernel
  have hw4 : ∀ w ∈ wsX40, w ∈ wsX4_lots := by decide +kernel
  have k10 := hts (.fieldLink RX4 10 "AnchorsForConfession" "now" "LAnchorsForConfession$Harbour;") (by decide +kernel)
  have k16 := hts (.fieldLink RX4 16 "AnchorsForConfession" "thought" "LAnchorsForConfession$Harbour;") (by decide +kernel)
  have k39 := hts (.fieldLink RX4 39 "AnchorsForConfession" "lot" "LAnchorsForConfession$Lot;") (by decide +kernel)
  have k155 := hts (.fieldLink RX4 155 "AnchorsForConfession$Harbour" "men" "I") (by decide +kernel)
  have k230 := hts (.fieldLink RX4 230 "AnchorsForConfession$Lot" "seed" "I") (by decide +kernel)
  replace hl : lv_has ls 7 [(0, .ref (A 0)), (1, .int p1), (2, .int p2), (3, .int p3)] := hl
  refine lv_iload_n hx hb dX4_lots_0 rfl (lv_at hl 1 rfl) ?_
  refine lv_iconst (v := 1) hx hb dX4_lots_1 (by decide) ?_
  refine lv_icmp_ge (tgt := 12) hx hb dX4_lots_2 (by decide) (fun c_1 => ?_) (fun c_1 => ?_)
  · replace hf := if_t c_1 hf
    refine lv_iload_n hx hb dX4_lots_12 rfl (lv_at hl 1 rfl) ?_
    refine lv_bipush (v := 20) hx hb dX4_lots_13 (by decide +kernel) ?_
    refine lv_icmp_le (tgt := 25) hx hb dX4_lots_15 (by decide) (fun c_2 => ?_) (fun c_2 => ?_)
    · replace hf := if_t c_2 hf
      refine lv_iload_n hx hb dX4_lots_25 rfl (lv_at hl 3 rfl) ?_
      refine lv_if_eq (tgt := 41) hx hb dX4_lots_26 (by decide) (fun c_3 => ?_) (fun c_3 => ?_)
      · replace hf := if_t c_3 hf
        refine lv_aload_n hx hb dX4_lots_41 rfl (lv_at hl 0 rfl) ?_
        refine va_get (D := D) (ci := 4) (v := .ref (A 1)) (C := RX4) (T := TX4) (N := 8) hx hb hts hw4 hown hK hP 0 cX_at0 rfl 0 (by decide) k10 (fun _ h9 => h9) rfl dX4_lots_42 ?_
        refine va_get (D := D) (ci := 0) (v := .int (n 16 1)) (C := RX0) (T := TX0) (N := 12) hx hb hts hw0 hown hK hP 1 cX_at1 rfl 4 (by decide) k155 (fun _ h9 => h9) rfl dX4_lots_45 ?_
        refine lv_if_ne (tgt := 58) hx hb dX4_lots_48 (by decide) (fun c_4 => ?_) (fun c_4 => ?_)
        · replace hf := if_f c_4 hf
          refine lv_aload_n hx hb dX4_lots_58 rfl (lv_at hl 0 rfl) ?_
          refine va_get (D := D) (ci := 4) (v := .ref (A 32)) (C := RX4) (T := TX4) (N := 8) hx hb hts hw4 hown hK hP 0 cX_at0 rfl 5 (by decide) k39 (fun _ h9 => h9) rfl dX4_lots_59 ?_
          refine lv_iload_n hx hb dX4_lots_62 rfl (lv_at hl 2 rfl) ?_
          refine va_put (D := D) (ci := 2) (v := .int p2) (ty := .int) (C := RX2) (T := TX2) (N := 1) hx hb hts hw2 tyX2 tyX2_ok nmX2 hown hK hP hD hS 32 cX_at32 rfl 0 (by decide) k230 (fun _ h9 => h9) rfl (tyX2_ok 0 (by decide)) rfl rfl (Nat.le_of_ble_eq_true rfl) dX4_lots_63 (fun H locs hP hD hS => ?_)
          obtain ⟨h_5, eh_5, hf⟩ := nq_e hf
          rw [cX_sc32_0, ← eh_5] at hP hD
          refine lv_iconst (v := 0) hx hb dX4_lots_66 (by decide) ?_
          refine lv_istore (lv' := [(4, .int (0 : Int32)), (0, .ref (A 0)), (1, .int p1), (2, .int p2), (3, .int p3)]) hx hb dX4_lots_67 hl (by decide) rfl (fun ls hl => ?_)
          refine lv_iconst (v := 0) hx hb dX4_lots_69 (by decide) ?_
          refine lv_istore (lv' := [(5, .int (0 : Int32)), (4, .int (0 : Int32)), (0, .ref (A 0)), (1, .int p1), (2, .int p2), (3, .int p3)]) hx hb dX4_lots_70 hl (by decide) rfl (fun ls hl => ?_)
          refine lv_iconst (v := 0) hx hb dX4_lots_72 (by decide) ?_
          refine lv_istore (lv' := [(6, .int (0 : Int32)), (5, .int (0 : Int32)), (4, .int (0 : Int32)), (0, .ref (A 0)), (1, .int p1), (2, .int p2), (3, .int p3)]) hx hb dX4_lots_73 hl (by decide) rfl (fun ls hl => ?_)
          refine lp_ind (P := fun (q75 : Int32 × Int32 × Int32 × St × St) => ∀ (H : Heap) (locs : List Loc) (ls : Array Slot), va_P D vwCl (cX cI A n q75.2.2.2.1 k g w q75.2.2.2.2 q) H → va_D AA (cX cI A n q75.2.2.2.1 k g w q75.2.2.2.2 q) → va_S AA s.heap H locs → lv_has ls 7 [(0, .ref (A 0)), (1, .int p1), (3, .int p3), (4, .int q75.1), (5, .int q75.2.1), (6, .int q75.2.2.1)] → W p l e rm_X4_lots s m args below meth c H locs 0 0 Q (F0 m 75 ls [])) hf ?_ H locs ls hP hD hS (lv_sub hl [3, 4, 6, 2, 1, 0] rfl)
          clear hf hP hD hS hl
          intro nx75 ih75 q75 hf H locs ls hP hD hS hl
          refine lv_iload hx hb dX4_lots_75 (lv_at hl 5 rfl) ?_
          refine lv_iload_n hx hb dX4_lots_77 rfl (lv_at hl 1 rfl) ?_
          refine lv_icmp_ge (tgt := 119) hx hb dX4_lots_78 (by decide) (fun c_6 => ?_) (fun c_6 => ?_)
          · replace hf := if_t c_6 hf
            refine lv_iload_n hx hb dX4_lots_119 rfl (lv_at hl 2 rfl) ?_
            refine lv_if_ne (tgt := 128) hx hb dX4_lots_120 (by decide) (fun c_7 => ?_) (fun c_7 => ?_)
            · replace hf := if_f c_7 hf
              refine lv_iload hx hb dX4_lots_128 (lv_at hl 4 rfl) ?_
              exact hend (q75.2.1, q75.2.2.2.1, q75.2.2.2.2, q) H locs _ _ hf hP hS dX4_lots_130
            · replace hf := if_t c_7 hf
              refine lv_iload hx hb dX4_lots_123 (lv_at hl 3 rfl) ?_
              refine lv_goto (tgt := 130) hx hb dX4_lots_125 (by decide) ?_
              exact hend (q75.1, q75.2.2.2.1, q75.2.2.2.2, q) H locs _ _ hf hP hS dX4_lots_130
          · replace hf := if_f c_6 hf
            refine lv_aload_n hx hb dX4_lots_81 rfl (lv_at hl 0 rfl) ?_
            refine va_get (D := D) (ci := 4) (v := .ref (A 10)) (C := RX4) (T := TX4) (N := 8) hx hb hts hw4 hown hK hP 0 cX_at0 rfl 1 (by decide) k16 (fun _ h9 => h9) rfl dX4_lots_82 ?_
            refine lv_aload_n hx hb dX4_lots_85 rfl (lv_at hl 0 rfl) ?_
            refine va_get (D := D) (ci := 4) (v := .ref (A 1)) (C := RX4) (T := TX4) (N := 8) hx hb hts hw4 hown hK hP 0 cX_at0 rfl 0 (by decide) k10 (fun _ h9 => h9) rfl dX4_lots_86 ?_
            obtain ⟨a_8, ha_8, hf⟩ := bd_e hf
            refine Ct.callV (As := [.ref (A 1)]) (rest := []) (st1 := []) (c_X0_copyFrom l D cI (fun j => A (10 + j)) (fun j => A (1 + j)) q75.2.2.2.1 n a_8 ha_8) hx hb hml hown hts (cwV 1 hts gX4_lots_X0_copyFrom rfl rfl rfl hd_X0_copyFrom ⟨Nat.le_of_ble_eq_true rfl, Nat.le_of_ble_eq_true rfl⟩) (va_recv hK hP (ci := 0) (q0 := 10) rfl cX_at10) ln_X_HH_tn hA hK hP hD hS rfl hl.1 rfl rfl (Nat.le_of_ble_eq_true rfl) dX4_lots_89 (fun H locs hP hD hS => ?_)
            replace hP : va_P D vwCl (cX cI A n a_8 k g w q75.2.2.2.2 q) H := hP
            replace hD : va_D AA (cX cI A n a_8 k g w q75.2.2.2.2 q) := hD
            refine lv_iload hx hb dX4_lots_92 (lv_at hl 3 rfl) ?_
            refine lv_aload_n hx hb dX4_lots_94 rfl (lv_at hl 0 rfl) ?_
            obtain ⟨a_9, ha_9, hf⟩ := bd_e hf
            refine Ct.callV (As := []) (rest := [.int q75.1]) (st1 := [.int a_9.1, .int q75.1]) (c_X4_season l D cI A n a_8 k g w q75.2.2.2.2 q a_9 ha_9) hx hb hml hown hts (cwV 0 hts gX4_lots_X4_season rfl rfl rfl hd_X4_season ⟨Nat.le_of_ble_eq_true rfl, Nat.le_of_ble_eq_true rfl⟩) (va_recv hK hP (ci := 4) (q0 := 0) rfl cX_at0) (Ln.id rfl) hA hK hP hD hS rfl hl.1 rfl rfl (Nat.le_of_ble_eq_true rfl) dX4_lots_95 (fun H locs hP hD hS => ?_)
            replace hP : va_P D vwCl (cX cI A n a_9.2.1 k g w a_9.2.2 q) H := hP
            replace hD : va_D AA (cX cI A n a_9.2.1 k g w a_9.2.2 q) := hD
            refine lv_iadd hx hb dX4_lots_98 ?_
            refine lv_topi (fun v_10 ev_10 => ?_)
            replace hf := nm_at ev_10 hf
            refine lv_istore (lv' := [(4, .int v_10), (0, .ref (A 0)), (1, .int p1), (3, .int p3), (5, .int q75.2.1), (6, .int q75.2.2.1)]) hx hb dX4_lots_99 hl (by decide) rfl (fun ls hl => ?_)
            refine lv_iload hx hb dX4_lots_101 (lv_at hl 4 rfl) ?_
            refine lv_aload_n hx hb dX4_lots_103 rfl (lv_at hl 1 rfl) ?_
            refine va_get (D := D) (ci := 4) (v := .ref (A 10)) (C := RX4) (T := TX4) (N := 8) hx hb hts hw4 hown hK hP 0 cX_at0 rfl 1 (by decide) k16 (fun _ h9 => h9) rfl dX4_lots_104 ?_
            obtain ⟨a_11, ha_11, hf⟩ := bd_e hf
            refine Ct.callV (As := []) (rest := [.int q75.2.1]) (st1 := [.int a_11, .int q75.2.1]) (c_X0_allSins l D cI (fun j => A (10 + j)) a_9.2.1 a_11 ha_11) hx hb hml hown hts (cwV 0 hts gX4_lots_X0_allSins rfl rfl rfl hd_X0_allSins ⟨Nat.le_of_ble_eq_true rfl, Nat.le_of_ble_eq_true rfl⟩) (va_recv hK hP (ci := 0) (q0 := 10) rfl cX_at10) ln_X_H_t hA hK hP hD hS rfl hl.1 rfl rfl (Nat.le_of_ble_eq_true rfl) dX4_lots_107 (fun H locs hP hD hS => ?_)
            refine lv_iadd hx hb dX4_lots_110 ?_
            refine lv_topi (fun v_12 ev_12 => ?_)
            replace hf := nm_at ev_12 hf
            refine lv_istore (lv' := [(5, .int v_12), (4, .int v_10), (0, .ref (A 0)), (1, .int p1), (3, .int p3), (6, .int q75.2.2.1)]) hx hb dX4_lots_111 hl (by decide) rfl (fun ls hl => ?_)
            obtain ⟨v_13, ev_13, hf⟩ := nq_e hf
            refine lv_iinc (v := v_13) (lv' := [(6, .int v_13), (5, .int v_12), (4, .int v_10), (0, .ref (A 0)), (1, .int p1), (3, .int p3)]) hx hb dX4_lots_113 hl (k := 5) rfl (by rw [ev_13]; rfl) (by decide) rfl (fun ls hl => ?_)
            refine lv_goto (tgt := 75) hx hb dX4_lots_116 (by decide) ?_
            exact ih75 (v_10, v_12, v_13, a_9.2.1, a_9.2.2) hf H locs ls hP hD hS (lv_sub hl [3, 4, 5, 2, 1, 0] rfl)
        · replace hf := if_t c_4 hf
          refine lv_aload_n hx hb dX4_lots_51 rfl (lv_at hl 0 rfl) ?_
          refine lv_bipush (v := -3) hx hb dX4_lots_52 (by decide +kernel) ?_
          obtain ⟨a_14, ha_14, hf⟩ := bd_e hf
          refine Ct.callV (As := [.int (-3 : Int32)]) (rest := []) (st1 := [.int a_14.1]) (c_X4_refused l D cI A n t k g w z q (-3 : Int32) a_14 ha_14) hx hb hml hown hts (cwV 1 hts gX4_lots_X4_refused rfl rfl rfl hd_X4_refused ⟨Nat.le_of_ble_eq_true rfl, Nat.le_of_ble_eq_true rfl⟩) (va_recv hK hP (ci := 4) (q0 := 0) rfl cX_at0) (Ln.id rfl) hA hK hP hD hS rfl hl.1 rfl rfl (Nat.le_of_ble_eq_true rfl) dX4_lots_54 (fun H locs hP hD hS => ?_)
          replace hP : va_P D vwCl (cX cI A n t k g w z a_14.2) H := hP
          replace hD : va_D AA (cX cI A n t k g w z a_14.2) := hD
          exact hend (a_14.1, t, z, a_14.2) H locs _ _ hf hP hS dX4_lots_57
      · replace hf := if_f c_3 hf
        refine lv_iload_n hx hb dX4_lots_29 rfl (lv_at hl 3 rfl) ?_
        refine lv_iconst (v := 1) hx hb dX4_lots_30 (by decide) ?_
        refine lv_icmp_eq (tgt := 41) hx hb dX4_lots_31 (by decide) (fun c_15 => ?_) (fun c_15 => ?_)
        · replace hf := if_t c_15 hf
          refine lv_aload_n hx hb dX4_lots_41 rfl (lv_at hl 0 rfl) ?_
          refine va_get (D := D) (ci := 4) (v := .ref (A 1)) (C := RX4) (T := TX4) (N := 8) hx hb hts hw4 hown hK hP 0 cX_at0 rfl 0 (by decide) k10 (fun _ h9 => h9) rfl dX4_lots_42 ?_
          refine va_get (D := D) (ci := 0) (v := .int (n 16 1)) (C := RX0) (T := TX0) (N := 12) hx hb hts hw0 hown hK hP 1 cX_at1 rfl 4 (by decide) k155 (fun _ h9 => h9) rfl dX4_lots_45 ?_
          refine lv_if_ne (tgt := 58) hx hb dX4_lots_48 (by decide) (fun c_16 => ?_) (fun c_16 => ?_)
          · replace hf := if_f c_16 hf
            refine lv_aload_n hx hb dX4_lots_58 rfl (lv_at hl 0 rfl) ?_
            refine va_get (D := D) (ci := 4) (v := .ref (A 32)) (C := RX4) (T := TX4) (N := 8) hx hb hts hw4 hown hK hP 0 cX_at0 rfl 5 (by decide) k39 (fun _ h9 => h9) rfl dX4_lots_59 ?_
            refine lv_iload_n hx hb dX4_lots_62 rfl (lv_at hl 2 rfl) ?_
            refine va_put (D := D) (ci := 2) (v := .int p2) (ty := .int) (C := RX2) (T := TX2) (N := 1) hx hb hts hw2 tyX2 tyX2_ok nmX2 hown hK hP hD hS 32 cX_at32 rfl 0 (by decide) k230 (fun _ h9 => h9) rfl (tyX2_ok 0 (by decide)) rfl rfl (Nat.le_of_ble_eq_true rfl) dX4_lots_63 (fun H locs hP hD hS => ?_)
            obtain ⟨h_17, eh_17, hf⟩ := nq_e hf
            rw [cX_sc32_0, ← eh_17] at hP hD
            refine lv_iconst (v := 0) hx hb dX4_lots_66 (by decide) ?_
            refine lv_istore (lv' := [(4, .int (0 : Int32)), (0, .ref (A 0)), (1, .int p1), (2, .int p2), (3, .int p3)]) hx hb dX4_lots_67 hl (by decide) rfl (fun ls hl => ?_)
            refine lv_iconst (v := 0) hx hb dX4_lots_69 (by decide) ?_
            refine lv_istore (lv' := [(5, .int (0 : Int32)), (4, .int (0 : Int32)), (0, .ref (A 0)), (1, .int p1), (2, .int p2), (3, .int p3)]) hx hb dX4_lots_70 hl (by decide) rfl (fun ls hl => ?_)
            refine lv_iconst (v := 0) hx hb dX4_lots_72 (by decide) ?_
            refine lv_istore (lv' := [(6, .int (0 : Int32)), (5, .int (0 : Int32)), (4, .int (0 : Int32)), (0, .ref (A 0)), (1, .int p1), (2, .int p2), (3, .int p3)]) hx hb dX4_lots_73 hl (by decide) rfl (fun ls hl => ?_)
            refine lp_ind (P := fun (q75 : Int32 × Int32 × Int32 × St × St) => ∀ (H : Heap) (locs : List Loc) (ls : Array Slot), va_P D vwCl (cX cI A n q75.2.2.2.1 k g w q75.2.2.2.2 q) H → va_D AA (cX cI A n q75.2.2.2.1 k g w q75.2.2.2.2 q) → va_S AA s.heap H locs → lv_has ls 7 [(0, .ref (A 0)), (1, .int p1), (3, .int p3), (4, .int q75.1), (5, .int q75.2.1), (6, .int q75.2.2.1)] → W p l e rm_X4_lots s m args below meth c H locs 0 0 Q (F0 m 75 ls [])) hf ?_ H locs ls hP hD hS (lv_sub hl [3, 4, 6, 2, 1, 0] rfl)
            clear hf hP hD hS hl
            intro nx75 ih75 q75 hf H locs ls hP hD hS hl
            refine lv_iload hx hb dX4_lots_75 (lv_at hl 5 rfl) ?_
            refine lv_iload_n hx hb dX4_lots_77 rfl (lv_at hl 1 rfl) ?_
            refine lv_icmp_ge (tgt := 119) hx hb dX4_lots_78 (by decide) (fun c_18 => ?_) (fun c_18 => ?_)
            · replace hf := if_t c_18 hf
              refine lv_iload_n hx hb dX4_lots_119 rfl (lv_at hl 2 rfl) ?_
              refine lv_if_ne (tgt := 128) hx hb dX4_lots_120 (by decide) (fun c_19 => ?_) (fun c_19 => ?_)
              · replace hf := if_f c_19 hf
                refine lv_iload hx hb dX4_lots_128 (lv_at hl 4 rfl) ?_
                exact hend (q75.2.1, q75.2.2.2.1, q75.2.2.2.2, q) H locs _ _ hf hP hS dX4_lots_130
              · replace hf := if_t c_19 hf
                refine lv_iload hx hb dX4_lots_123 (lv_at hl 3 rfl) ?_
                refine lv_goto (tgt := 130) hx hb dX4_lots_125 (by decide) ?_
                exact hend (q75.1, q75.2.2.2.1, q75.2.2.2.2, q) H locs _ _ hf hP hS dX4_lots_130
            · replace hf := if_f c_18 hf
              refine lv_aload_n hx hb dX4_lots_81 rfl (lv_at hl 0 rfl) ?_
              refine va_get (D := D) (ci := 4) (v := .ref (A 10)) (C := RX4) (T := TX4) (N := 8) hx hb hts hw4 hown hK hP 0 cX_at0 rfl 1 (by decide) k16 (fun _ h9 => h9) rfl dX4_lots_82 ?_
              refine lv_aload_n hx hb dX4_lots_85 rfl (lv_at hl 0 rfl) ?_
              refine va_get (D := D) (ci := 4) (v := .ref (A 1)) (C := RX4) (T := TX4) (N := 8) hx hb hts hw4 hown hK hP 0 cX_at0 rfl 0 (by decide) k10 (fun _ h9 => h9) rfl dX4_lots_86 ?_
              obtain ⟨a_20, ha_20, hf⟩ := bd_e hf
              refine Ct.callV (As := [.ref (A 1)]) (rest := []) (st1 := []) (c_X0_copyFrom l D cI (fun j => A (10 + j)) (fun j => A (1 + j)) q75.2.2.2.1 n a_20 ha_20) hx hb hml hown hts (cwV 1 hts gX4_lots_X0_copyFrom rfl rfl rfl hd_X0_copyFrom ⟨Nat.le_of_ble_eq_true rfl, Nat.le_of_ble_eq_true rfl⟩) (va_recv hK hP (ci := 0) (q0 := 10) rfl cX_at10) ln_X_HH_tn hA hK hP hD hS rfl hl.1 rfl rfl (Nat.le_of_ble_eq_true rfl) dX4_lots_89 (fun H locs hP hD hS => ?_)
              replace hP : va_P D vwCl (cX cI A n a_20 k g w q75.2.2.2.2 q) H := hP
              replace hD : va_D AA (cX cI A n a_20 k g w q75.2.2.2.2 q) := hD
              refine lv_iload hx hb dX4_lots_92 (lv_at hl 3 rfl) ?_
              refine lv_aload_n hx hb dX4_lots_94 rfl (lv_at hl 0 rfl) ?_
              obtain ⟨a_21, ha_21, hf⟩ := bd_e hf
              refine Ct.callV (As := []) (rest := [.int q75.1]) (st1 := [.int a_21.1, .int q75.1]) (c_X4_season l D cI A n a_20 k g w q75.2.2.2.2 q a_21 ha_21) hx hb hml hown hts (cwV 0 hts gX4_lots_X4_season rfl rfl rfl hd_X4_season ⟨Nat.le_of_ble_eq_true rfl, Nat.le_of_ble_eq_true rfl⟩) (va_recv hK hP (ci := 4) (q0 := 0) rfl cX_at0) (Ln.id rfl) hA hK hP hD hS rfl hl.1 rfl rfl (Nat.le_of_ble_eq_true rfl) dX4_lots_95 (fun H locs hP hD hS => ?_)
              replace hP : va_P D vwCl (cX cI A n a_21.2.1 k g w a_21.2.2 q) H := hP
              replace hD : va_D AA (cX cI A n a_21.2.1 k g w a_21.2.2 q) := hD
              refine lv_iadd hx hb dX4_lots_98 ?_
              refine lv_topi (fun v_22 ev_22 => ?_)
              replace hf := nm_at ev_22 hf
              refine lv_istore (lv' := [(4, .int v_22), (0, .ref (A 0)), (1, .int p1), (3, .int p3), (5, .int q75.2.1), (6, .int q75.2.2.1)]) hx hb dX4_lots_99 hl (by decide) rfl (fun ls hl => ?_)
              refine lv_iload hx hb dX4_lots_101 (lv_at hl 4 rfl) ?_
              refine lv_aload_n hx hb dX4_lots_103 rfl (lv_at hl 1 rfl) ?_
              refine va_get (D := D) (ci := 4) (v := .ref (A 10)) (C := RX4) (T := TX4) (N := 8) hx hb hts hw4 hown hK hP 0 cX_at0 rfl 1 (by decide) k16 (fun _ h9 => h9) rfl dX4_lots_104 ?_
              obtain ⟨a_23, ha_23, hf⟩ := bd_e hf
              refine Ct.callV (As := []) (rest := [.int q75.2.1]) (st1 := [.int a_23, .int q75.2.1]) (c_X0_allSins l D cI (fun j => A (10 + j)) a_21.2.1 a_23 ha_23) hx hb hml hown hts (cwV 0 hts gX4_lots_X0_allSins rfl rfl rfl hd_X0_allSins ⟨Nat.le_of_ble_eq_true rfl, Nat.le_of_ble_eq_true rfl⟩) (va_recv hK hP (ci := 0) (q0 := 10) rfl cX_at10) ln_X_H_t hA hK hP hD hS rfl hl.1 rfl rfl (Nat.le_of_ble_eq_true rfl) dX4_lots_107 (fun H locs hP hD hS => ?_)
              refine lv_iadd hx hb dX4_lots_110 ?_
              refine lv_topi (fun v_24 ev_24 => ?_)
              replace hf := nm_at ev_24 hf
              refine lv_istore (lv' := [(5, .int v_24), (4, .int v_22), (0, .ref (A 0)), (1, .int p1), (3, .int p3), (6, .int q75.2.2.1)]) hx hb dX4_lots_111 hl (by decide) rfl (fun ls hl => ?_)
              obtain ⟨v_25, ev_25, hf⟩ := nq_e hf
              refine lv_iinc (v := v_25) (lv' := [(6, .int v_25), (5, .int v_24), (4, .int v_22), (0, .ref (A 0)), (1, .int p1), (3, .int p3)]) hx hb dX4_lots_113 hl (k := 5) rfl (by rw [ev_25]; rfl) (by decide) rfl (fun ls hl => ?_)
              refine lv_goto (tgt := 75) hx hb dX4_lots_116 (by decide) ?_
              exact ih75 (v_22, v_24, v_25, a_21.2.1, a_21.2.2) hf H locs ls hP hD hS (lv_sub hl [3, 4, 5, 2, 1, 0] rfl)
          · replace hf := if_t c_16 hf
            refine lv_aload_n hx hb dX4_lots_51 rfl (lv_at hl 0 rfl) ?_
            refine lv_bipush (v := -3) hx hb dX4_lots_52 (by decide +kernel) ?_
            obtain ⟨a_26, ha_26, hf⟩ := bd_e hf
            refine Ct.callV (As := [.int (-3 : Int32)]) (rest := []) (st1 := [.int a_26.1]) (c_X4_refused l D cI A n t k g w z q (-3 : Int32) a_26 ha_26) hx hb hml hown hts (cwV 1 hts gX4_lots_X4_refused rfl rfl rfl hd_X4_refused ⟨Nat.le_of_ble_eq_true rfl, Nat.le_of_ble_eq_true rfl⟩) (va_recv hK hP (ci := 4) (q0 := 0) rfl cX_at0) (Ln.id rfl) hA hK hP hD hS rfl hl.1 rfl rfl (Nat.le_of_ble_eq_true rfl) dX4_lots_54 (fun H locs hP hD hS => ?_)
            replace hP : va_P D vwCl (cX cI A n t k g w z a_26.2) H := hP
            replace hD : va_D AA (cX cI A n t k g w z a_26.2) := hD
            exact hend (a_26.1, t, z, a_26.2) H locs _ _ hf hP hS dX4_lots_57
        · replace hf := if_f c_15 hf
          refine lv_aload_n hx hb dX4_lots_34 rfl (lv_at hl 0 rfl) ?_
          refine lv_bipush (v := -2) hx hb dX4_lots_35 (by decide +kernel) ?_
          obtain ⟨a_27, ha_27, hf⟩ := bd_e hf
          refine Ct.callV (As := [.int (-2 : Int32)]) (rest := []) (st1 := [.int a_27.1]) (c_X4_refused l D cI A n t k g w z q (-2 : Int32) a_27 ha_27) hx hb hml hown hts (cwV 1 hts gX4_lots_X4_refused rfl rfl rfl hd_X4_refused ⟨Nat.le_of_ble_eq_true rfl, Nat.le_of_ble_eq_true rfl⟩) (va_recv hK hP (ci := 4) (q0 := 0) rfl cX_at0) (Ln.id rfl) hA hK hP hD hS rfl hl.1 rfl rfl (Nat.le_of_ble_eq_true rfl) dX4_lots_37 (fun H locs hP hD hS => ?_)
          replace hP : va_P D vwCl (cX cI A n t k g w z a_27.2) H := hP
          replace hD : va_D AA (cX cI A n t k g w z a_27.2) := hD
          exact hend (a_27.1, t, z, a_27.2) H locs _ _ hf hP hS dX4_lots_40
    · replace hf := if_f c_2 hf
      refine lv_aload_n hx hb dX4_lots_18 rfl (lv_at hl 0 rfl) ?_
      refine lv_bipush (v := -6) hx hb dX4_lots_19 (by decide +kernel) ?_
      obtain ⟨a_28, ha_28, hf⟩ := bd_e hf
      refine Ct.callV (As := [.int (-6 : Int32)]) (rest := []) (st1 := [.int a_28.1]) (c_X4_refused l D cI A n t k g w z q (-6 : Int32) a_28 ha_28) hx hb hml hown hts (cwV 1 hts gX4_lots_X4_refused rfl rfl rfl hd_X4_refused ⟨Nat.le_of_ble_eq_true rfl, Nat.le_of_ble_eq_true rfl⟩) (va_recv hK hP (ci := 4) (q0 := 0) rfl cX_at0) (Ln.id rfl) hA hK hP hD hS rfl hl.1 rfl rfl (Nat.le_of_ble_eq_true rfl) dX4_lots_21 (fun H locs hP hD hS => ?_)
      replace hP : va_P D vwCl (cX cI A n t k g w z a_28.2) H := hP
      replace hD : va_D AA (cX cI A n t k g w z a_28.2) := hD
      exact hend (a_28.1, t, z, a_28.2) H locs _ _ hf hP hS dX4_lots_24
  · replace hf := if_f c_1 hf
    refine lv_aload_n hx hb dX4_lots_5 rfl (lv_at hl 0 rfl) ?_
    refine lv_bipush (v := -4) hx hb dX4_lots_6 (by decide +kernel) ?_
    obtain ⟨a_29, ha_29, hf⟩ := bd_e hf
    refine Ct.callV (As := [.int (-4 : Int32)]) (rest := []) (st1 := [.int a_29.1]) (c_X4_refused l D cI A n t k g w z q (-4 : Int32) a_29 ha_29) hx hb hml hown hts (cwV 1 hts gX4_lots_X4_refused rfl rfl rfl hd_X4_refused ⟨Nat.le_of_ble_eq_true rfl, Nat.le_of_ble_eq_true rfl⟩) (va_recv hK hP (ci := 4) (q0 := 0) rfl cX_at0) (Ln.id rfl) hA hK hP hD hS rfl hl.1 rfl rfl (Nat.le_of_ble_eq_true rfl) dX4_lots_8 (fun H locs hP hD hS => ?_)
    replace hP : va_P D vwCl (cX cI A n t k g w z a_29.2) H := hP
    replace hD : va_D AA (cX cI A n t k g w z a_29.2) := hD
    exact hend (a_29.1, t, z, a_29.2) H locs _ _ hf hP hS dX4_lots_11

def rm_X4_image : Room := { frames := 1, cells := 0, slots := 0, locals := 22 }
theorem hd_X4_image : yX4_image.cls = RX4 ∧ yX4_image.cls ≠ "java/lang/invoke/MethodHandle" ∧ yX4_image.cls ≠ "java/lang/invoke/VarHandle" ∧ (parseMethodDescriptor yX4_image.desc).map (fun d => d.parameters.length) = some 0 := by decide +kernel
set_option maxRecDepth 100000 in
set_option maxHeartbeats 4000000 in
theorem c_X4_image (l : Launch) (D : va_G) (cI : ClassId) (A : Nat → Nat) (n : St) (t : St) (k : St) (g : St) (w : St) (z : St) (q : St) (r : Int32 × St × St) (hf : f_X4_image n t k g w z q = some r) : Ct l yX4_image wsX4_image rm_X4_image D cI (cX cI A n t k g w z q) (cX cI A n t r.2.1 g w z r.2.2) [.ref (A 0)] (some (.int r.1)) := by
  unfold f_X4_image at hf
  refine Ct.ofI (cc := cX4_image) (maxL := 1) (by decide +kernel) rfl (Nat.le_of_ble_eq_true rfl) ?_
  intro p e s m args below meth c AA Q H locs ls hx hb hml hown hts hA hK hP hD hS hl hend0
  have hend : ∀ (r1 : Int32 × St × St) (H : Heap) (locs : List Loc) (pc : Nat) (ls : Array Slot), some r1 = some r → va_P D vwCl (cX cI A n t r1.2.1 g w z r1.2.2) H → va_S AA s.heap H locs → decode cX4_image pc = .ok (.ireturn, 1) → W p l e rm_X4_image s m args below meth c H locs 0 0 Q (F0 m pc ls [.int r1.1]) := by
    intro r1 H locs pc ls e1 hP hS hd; cases e1; exact hend0 H locs pc ls hP hS hd
  clear hend0
  have hw0 : ∀ w ∈ wsX00, w ∈ wsX4_image := by decide +kernel
  have hw4 : ∀ w ∈ wsX40, w ∈ wsX4_image := by decide +kernel
  have k10 := hts (.fieldLink RX4 10 "AnchorsForConfession" "now" "LAnchorsForConfession$Harbour;") (by decide +kernel)
  have k19 := hts (.fieldLink RX4 19 "AnchorsForConfession" "kept" "LAnchorsForConfession$Harbour;") (by decide +kernel)
  have k47 := hts (.fieldLink RX4 47 "AnchorsForConfession" "imageTaken" "Z") (by decide +kernel)
  have k177 := hts (.fieldLink RX4 177 "AnchorsForConfession$Harbour" "tide" "I") (by decide +kernel)
  replace hl : lv_has ls 1 [(0, .ref (A 0))] := hl
  refine lv_aload_n hx hb dX4_image_0 rfl (lv_at hl 0 rfl) ?_
  refine va_get (D := D) (ci := 4) (v := .ref (A 19)) (C := RX4) (T := TX4) (N := 8) hx hb hts hw4 hown hK hP 0 cX_at0 rfl 2 (by decide) k19 (fun _ h9 => h9) rfl dX4_image_1 ?_
  refine lv_aload_n hx hb dX4_image_4 rfl (lv_at hl 0 rfl) ?_
  refine va_get (D := D) (ci := 4) (v := .ref (A 1)) (C := RX4) (T := TX4) (N := 8) hx hb hts hw4 hown hK hP 0 cX_at0 rfl 0 (by decide) k10 (fun _ h9 => h9) rfl dX4_image_5 ?_
  obtain ⟨a_1, ha_1, hf⟩ := bd_e hf
  refine Ct.callV (As := [.ref (A 1)]) (rest := []) (st1 := []) (c_X0_copyFrom l D cI (fun j => A (19 + j)) (fun j => A (1 + j)) k n a_1 ha_1) hx hb hml hown hts (cwV 1 hts gX4_image_X0_copyFrom rfl rfl rfl hd_X0_copyFrom ⟨Nat.le_of_ble_eq_true rfl, Nat.le_of_ble_eq_true rfl⟩) (va_recv hK hP (ci := 0) (q0 := 19) rfl cX_at19) ln_X_HH_kn hA hK hP hD hS rfl hl.1 rfl rfl (Nat.le_of_ble_eq_true rfl) dX4_image_8 (fun H locs hP hD hS => ?_)
  replace hP : va_P D vwCl (cX cI A n t a_1 g w z q) H := hP
  replace hD : va_D AA (cX cI A n t a_1 g w z q) := hD
  refine lv_aload_n hx hb dX4_image_11 rfl (lv_at hl 0 rfl) ?_
  refine lv_iconst (v := 1) hx hb dX4_image_12 (by decide) ?_
  refine va_put (D := D) (ci := 4) (v := .int (1 : Int32)) (ty := .boolean) (C := RX4) (T := TX4) (N := 8) hx hb hts hw4 tyX4 tyX4_ok nmX4 hown hK hP hD hS 0 cX_at0 rfl 7 (by decide) k47 (fun _ h9 => h9) rfl (tyX4_ok 7 (by decide)) rfl rfl (Nat.le_of_ble_eq_true rfl) dX4_image_13 (fun H locs hP hD hS => ?_)
  obtain ⟨h_2, eh_2, hf⟩ := nq_e hf
  rw [cX_sc0_7, ← eh_2] at hP hD
  refine lv_aload_n hx hb dX4_image_16 rfl (lv_at hl 0 rfl) ?_
  refine va_get (D := D) (ci := 4) (v := .ref (A 19)) (C := RX4) (T := TX4) (N := 8) hx hb hts hw4 hown hK hP 0 cX_at0 rfl 2 (by decide) k19 (fun _ h9 => h9) rfl dX4_image_17 ?_
  refine va_get (D := D) (ci := 0) (v := .int (a_1 16 3)) (C := RX0) (T := TX0) (N := 12) hx hb hts hw0 hown hK hP 19 cX_at19 rfl 10 (by decide) k177 (fun _ h9 => h9) rfl dX4_image_20 ?_
  exact hend ((a_1 16 3), a_1, h_2) H locs _ _ hf hP hS dX4_image_23

def rm_X4_on : Room := { frames := 1, cells := 0, slots := 0, locals := 22 }
theorem hd_X4_on : yX4_on.cls = RX4 ∧ yX4_on.cls ≠ "java/lang/invoke/MethodHandle" ∧ yX4_on.cls ≠ "java/lang/invoke/VarHandle" ∧ (parseMethodDescriptor yX4_on.desc).map (fun d => d.parameters.length) = some 0 := by decide +kernel
set_option maxRecDepth 100000 in
set_option maxHeartbeats 4000000 in
theorem c_X4_on (l : Launch) (D : va_G) (cI : ClassId) (A : Nat → Nat) (n : St) (t : St) (k : St) (g : St) (w : St) (z : St) (q : St) (r : Int32 × St × St) (hf : f_X4_on n t k g w z q = some r) : Ct l yX4_on wsX4_on rm_X4_on D cI (cX cI A n t k g w z q) (cX cI A r.2.1 t k g w z r.2.2) [.ref (A 0)] (some (.int r.1)) := by
  unfold f_X4_on at hf
  refine Ct.ofI (cc := cX4_on) (maxL := 1) (by decide +kernel) rfl (Nat.le_of_ble_eq_true rfl) ?_
  intro p e s m args below meth c AA Q H locs ls hx hb hml hown hts hA hK hP hD hS hl hend0
  have hend : ∀ (r1 : Int32 × St × St) (H : Heap) (locs : List Loc) (pc : Nat) (ls : Array Slot), some r1 = some r → va_P D vwCl (cX cI A r1.2.1 t k g w z r1.2.2) H → va_S AA s.heap H locs → decode cX4_on pc = .ok (.ireturn, 1) → W p l e rm_X4_on s m args below meth c H locs 0 0 Q (F0 m pc ls [.int r1.1]) := by
    intro r1 H locs pc ls e1 hP hS hd; cases e1; exact hend0 H locs pc ls hP hS hd
  clear hend0
  have hw0 : ∀ w ∈ wsX00, w ∈ wsX4_on := by decide +kernel
  have hw4 : ∀ w ∈ wsX40, w ∈ wsX4_on := by decide +kernel
  have k10 := hts (.fieldLink RX4 10 "AnchorsForConfession" "now" "LAnchorsForConfession$Harbour;") (by decide +kernel)
  have k19 := hts (.fieldLink RX4 19 "AnchorsForConfession" "kept" "LAnchorsForConfession$Harbour;") (by decide +kernel)
  have k47 := hts (.fieldLink RX4 47 "AnchorsForConfession" "imageTaken" "Z") (by decide +kernel)
  have k177 := hts (.fieldLink RX4 177 "AnchorsForConfession$Harbour" "tide" "I") (by decide +kernel)
  replace hl : lv_has ls 1 [(0, .ref (A 0))] := hl
  refine lv_aload_n hx hb dX4_on_0 rfl (lv_at hl 0 rfl) ?_
  refine va_get (D := D) (ci := 4) (v := .int (q 1 0)) (C := RX4) (T := TX4) (N := 8) hx hb hts hw4 hown hK hP 0 cX_at0 rfl 7 (by decide) k47 (fun _ h9 => h9) rfl dX4_on_1 ?_
  refine lv_if_ne (tgt := 14) hx hb dX4_on_4 (by decide) (fun c_1 => ?_) (fun c_1 => ?_)
  · replace hf := if_f c_1 hf
    refine lv_aload_n hx hb dX4_on_14 rfl (lv_at hl 0 rfl) ?_
    refine va_get (D := D) (ci := 4) (v := .ref (A 1)) (C := RX4) (T := TX4) (N := 8) hx hb hts hw4 hown hK hP 0 cX_at0 rfl 0 (by decide) k10 (fun _ h9 => h9) rfl dX4_on_15 ?_
    refine lv_aload_n hx hb dX4_on_18 rfl (lv_at hl 0 rfl) ?_
    refine va_get (D := D) (ci := 4) (v := .ref (A 19)) (C := RX4) (T := TX4) (N := 8) hx hb hts hw4 hown hK hP 0 cX_at0 rfl 2 (by decide) k19 (fun _ h9 => h9) rfl dX4_on_19 ?_
    obtain ⟨a_2, ha_2, hf⟩ := bd_e hf
    refine Ct.callV (As := [.ref (A 19)]) (rest := []) (st1 := []) (c_X0_copyFrom l D cI (fun j => A (1 + j)) (fun j => A (19 + j)) n k a_2 ha_2) hx hb hml hown hts (cwV 1 hts gX4_on_X0_copyFrom rfl rfl rfl hd_X0_copyFrom ⟨Nat.le_of_ble_eq_true rfl, Nat.le_of_ble_eq_true rfl⟩) (va_recv hK hP (ci := 0) (q0 := 1) rfl cX_at1) ln_X_HH_nk hA hK hP hD hS rfl hl.1 rfl rfl (Nat.le_of_ble_eq_true rfl) dX4_on_22 (fun H locs hP hD hS => ?_)
    replace hP : va_P D vwCl (cX cI A a_2 t k g w z q) H := hP
    replace hD : va_D AA (cX cI A a_2 t k g w z q) := hD
    refine lv_aload_n hx hb dX4_on_25 rfl (lv_at hl 0 rfl) ?_
    refine va_get (D := D) (ci := 4) (v := .ref (A 1)) (C := RX4) (T := TX4) (N := 8) hx hb hts hw4 hown hK hP 0 cX_at0 rfl 0 (by decide) k10 (fun _ h9 => h9) rfl dX4_on_26 ?_
    refine va_get (D := D) (ci := 0) (v := .int (a_2 16 3)) (C := RX0) (T := TX0) (N := 12) hx hb hts hw0 hown hK hP 1 cX_at1 rfl 10 (by decide) k177 (fun _ h9 => h9) rfl dX4_on_29 ?_
    exact hend ((a_2 16 3), a_2, q) H locs _ _ hf hP hS dX4_on_32
  · replace hf := if_t c_1 hf
    refine lv_aload_n hx hb dX4_on_7 rfl (lv_at hl 0 rfl) ?_
    refine lv_bipush (v := -3) hx hb dX4_on_8 (by decide +kernel) ?_
    obtain ⟨a_3, ha_3, hf⟩ := bd_e hf
    refine Ct.callV (As := [.int (-3 : Int32)]) (rest := []) (st1 := [.int a_3.1]) (c_X4_refused l D cI A n t k g w z q (-3 : Int32) a_3 ha_3) hx hb hml hown hts (cwV 1 hts gX4_on_X4_refused rfl rfl rfl hd_X4_refused ⟨Nat.le_of_ble_eq_true rfl, Nat.le_of_ble_eq_true rfl⟩) (va_recv hK hP (ci := 4) (q0 := 0) rfl cX_at0) (Ln.id rfl) hA hK hP hD hS rfl hl.1 rfl rfl (Nat.le_of_ble_eq_true rfl) dX4_on_10 (fun H locs hP hD hS => ?_)
    replace hP : va_P D vwCl (cX cI A n t k g w z a_3.2) H := hP
    replace hD : va_D AA (cX cI A n t k g w z a_3.2) := hD
    exact hend (a_3.1, n, a_3.2) H locs _ _ hf hP hS dX4_on_13

def rm_X4_count : Room := { frames := 2, cells := 0, slots := 0, locals := 43 }
theorem hd_X4_count : yX4_count.cls = RX4 ∧ yX4_count.cls ≠ "java/lang/invoke/MethodHandle" ∧ yX4_count.cls ≠ "java/lang/invoke/VarHandle" ∧ (parseMethodDescriptor yX4_count.desc).map (fun d => d.parameters.length) = some 1 := by decide +kernel
set_option maxRecDepth 100000 in
set_option maxHeartbeats 4000000 in
theorem c_X4_count (l : Launch) (D : va_G) (cI : ClassId) (A : Nat → Nat) (n : St) (t : St) (k : St) (g : St) (w : St) (z : St) (q : St) (p1 : Int32) (r : Int32) (hf : f_X4_count n t k g w z q p1 = some r) : Ct l yX4_count wsX4_count rm_X4_count D cI (cX cI A n t k g w z q) (cX cI A n t k g w z q) [.ref (A 0), .int p1] (some (.int r)) := by
  unfold f_X4_count at hf
  refine Ct.ofI (cc := cX4_count) (maxL := 2) (by decide +kernel) rfl (Nat.le_of_ble_eq_true rfl) ?_
  intro p e s m args below meth c AA Q H locs ls hx hb hml hown hts hA hK hP hD hS hl hend0
  have hend : ∀ (r1 : Int32) (H : Heap) (locs : List Loc) (pc : Nat) (ls : Array Slot), some r1 = some r → va_P D vwCl (cX cI A n t k g w z q) H → va_S AA s.heap H locs → decode cX4_count pc = .ok (.ireturn, 1) → W p l e rm_X4_count s m args below meth c H locs 0 0 Q (F0 m pc ls [.int r1]) := by
    intro r1 H locs pc ls e1 hP hS hd; cases e1; exact hend0 H locs pc ls hP hS hd
  clear hend0
  have hw0 : ∀ w ∈ wsX00, w ∈ wsX4_count := by decide +kernel
  have hw1 : ∀ w ∈ wsX10, w ∈ wsX4_count := by decide +kernel
  have hw3 : ∀ w ∈ wsX30, w ∈ wsX4_count := by decide +kernel
  have hw4 : ∀ w ∈ wsX40, w ∈ wsX4_count := by decide +kernel
  have k10 := hts (.fieldLink RX4 10 "AnchorsForConfession" "now" "LAnchorsForConfession$Harbour;") (by decide +kernel)
  have k25 := hts (.fieldLink RX4 25 "AnchorsForConfession" "letters" "LAnchorsForConfession$Letters;") (by decide +kernel)
  have k32 := hts (.fieldLink RX4 32 "AnchorsForConfession" "told" "LAnchorsForConfession$Row;") (by decide +kernel)
  have k43 := hts (.fieldLink RX4 43 "AnchorsForConfession" "refusals" "[I") (by decide +kernel)
  have k136 := hts (.fieldLink RX4 136 "AnchorsForConfession$Harbour" "ships" "I") (by decide +kernel)
  have k155 := hts (.fieldLink RX4 155 "AnchorsForConfession$Harbour" "men" "I") (by decide +kernel)
  have k167 := hts (.fieldLink RX4 167 "AnchorsForConfession$Harbour" "heard" "I") (by decide +kernel)
  have k177 := hts (.fieldLink RX4 177 "AnchorsForConfession$Harbour" "tide" "I") (by decide +kernel)
  have k239 := hts (.fieldLink RX4 239 "AnchorsForConfession$Row" "size" "I") (by decide +kernel)
  have k242 := hts (.fieldLink RX4 242 "AnchorsForConfession$Letters" "size" "I") (by decide +kernel)
  replace hl : lv_has ls 2 [(0, .ref (A 0)), (1, .int p1)] := hl
  refine lv_iload_n hx hb dX4_count_0 rfl (lv_at hl 1 rfl) ?_
  refine lv_bipush (v := 11) hx hb dX4_count_1 (by decide +kernel) ?_
  refine lv_icmp_lt (tgt := 22) hx hb dX4_count_3 (by decide) (fun c_1 => ?_) (fun c_1 => ?_)
  · replace hf := if_t c_1 hf
    refine lv_iload_n hx hb dX4_count_22 rfl (lv_at hl 1 rfl) ?_
    by_cases c_2 : p1 = 0
    · replace hf := if_t c_2 hf
      refine lv_tableIn (off := 45) (tgt := 68) hx hb dX4_count_23 (by rw [c_2]; decide +kernel) (by rw [c_2]; decide +kernel) (by rw [c_2]; decide +kernel) (by decide) ?_
      refine lv_aload_n hx hb dX4_count_68 rfl (lv_at hl 0 rfl) ?_
      refine va_get (D := D) (ci := 4) (v := .ref (A 1)) (C := RX4) (T := TX4) (N := 8) hx hb hts hw4 hown hK hP 0 cX_at0 rfl 0 (by decide) k10 (fun _ h9 => h9) rfl dX4_count_69 ?_
      refine va_get (D := D) (ci := 0) (v := .int (n 16 0)) (C := RX0) (T := TX0) (N := 12) hx hb hts hw0 hown hK hP 1 cX_at1 rfl 0 (by decide) k136 (fun _ h9 => h9) rfl dX4_count_72 ?_
      exact hend (n 16 0) H locs _ _ hf hP hS dX4_count_75
    · replace hf := if_f c_2 hf
      by_cases c_3 : p1 = 1
      · replace hf := if_t c_3 hf
        refine lv_tableIn (off := 53) (tgt := 76) hx hb dX4_count_23 (by rw [c_3]; decide +kernel) (by rw [c_3]; decide +kernel) (by rw [c_3]; decide +kernel) (by decide) ?_
        refine lv_aload_n hx hb dX4_count_76 rfl (lv_at hl 0 rfl) ?_
        refine va_get (D := D) (ci := 4) (v := .ref (A 1)) (C := RX4) (T := TX4) (N := 8) hx hb hts hw4 hown hK hP 0 cX_at0 rfl 0 (by decide) k10 (fun _ h9 => h9) rfl dX4_count_77 ?_
        refine va_get (D := D) (ci := 0) (v := .int (n 16 1)) (C := RX0) (T := TX0) (N := 12) hx hb hts hw0 hown hK hP 1 cX_at1 rfl 4 (by decide) k155 (fun _ h9 => h9) rfl dX4_count_80 ?_
        exact hend (n 16 1) H locs _ _ hf hP hS dX4_count_83
      · replace hf := if_f c_3 hf
        by_cases c_4 : p1 = 2
        · replace hf := if_t c_4 hf
          refine lv_tableIn (off := 61) (tgt := 84) hx hb dX4_count_23 (by rw [c_4]; decide +kernel) (by rw [c_4]; decide +kernel) (by rw [c_4]; decide +kernel) (by decide) ?_
          refine lv_aload_n hx hb dX4_count_84 rfl (lv_at hl 0 rfl) ?_
          refine va_get (D := D) (ci := 4) (v := .ref (A 1)) (C := RX4) (T := TX4) (N := 8) hx hb hts hw4 hown hK hP 0 cX_at0 rfl 0 (by decide) k10 (fun _ h9 => h9) rfl dX4_count_85 ?_
          refine va_get (D := D) (ci := 0) (v := .int (n 16 3)) (C := RX0) (T := TX0) (N := 12) hx hb hts hw0 hown hK hP 1 cX_at1 rfl 10 (by decide) k177 (fun _ h9 => h9) rfl dX4_count_88 ?_
          exact hend (n 16 3) H locs _ _ hf hP hS dX4_count_91
        · replace hf := if_f c_4 hf
          by_cases c_5 : p1 = 3
          · replace hf := if_t c_5 hf
            refine lv_tableIn (off := 69) (tgt := 92) hx hb dX4_count_23 (by rw [c_5]; decide +kernel) (by rw [c_5]; decide +kernel) (by rw [c_5]; decide +kernel) (by decide) ?_
            refine lv_aload_n hx hb dX4_count_92 rfl (lv_at hl 0 rfl) ?_
            refine va_get (D := D) (ci := 4) (v := .ref (A 1)) (C := RX4) (T := TX4) (N := 8) hx hb hts hw4 hown hK hP 0 cX_at0 rfl 0 (by decide) k10 (fun _ h9 => h9) rfl dX4_count_93 ?_
            refine va_get (D := D) (ci := 0) (v := .int (n 16 2)) (C := RX0) (T := TX0) (N := 12) hx hb hts hw0 hown hK hP 1 cX_at1 rfl 9 (by decide) k167 (fun _ h9 => h9) rfl dX4_count_96 ?_
            exact hend (n 16 2) H locs _ _ hf hP hS dX4_count_99
          · replace hf := if_f c_5 hf
            by_cases c_6 : p1 = 4
            · replace hf := if_t c_6 hf
              refine lv_tableIn (off := 77) (tgt := 100) hx hb dX4_count_23 (by rw [c_6]; decide +kernel) (by rw [c_6]; decide +kernel) (by rw [c_6]; decide +kernel) (by decide) ?_
              refine lv_aload_n hx hb dX4_count_100 rfl (lv_at hl 0 rfl) ?_
              refine va_get (D := D) (ci := 4) (v := .ref (A 1)) (C := RX4) (T := TX4) (N := 8) hx hb hts hw4 hown hK hP 0 cX_at0 rfl 0 (by decide) k10 (fun _ h9 => h9) rfl dX4_count_101 ?_
              obtain ⟨a_7, ha_7, hf⟩ := bd_e hf
              refine Ct.callV (As := []) (rest := []) (st1 := [.int a_7]) (c_X0_outBits l D cI (fun j => A (1 + j)) n a_7 ha_7) hx hb hml hown hts (cwV 0 hts gX4_count_X0_outBits rfl rfl rfl hd_X0_outBits ⟨Nat.le_of_ble_eq_true rfl, Nat.le_of_ble_eq_true rfl⟩) (va_recv hK hP (ci := 0) (q0 := 1) rfl cX_at1) ln_X_H_n hA hK hP hD hS rfl hl.1 rfl rfl (Nat.le_of_ble_eq_true rfl) dX4_count_104 (fun H locs hP hD hS => ?_)
              exact hend a_7 H locs _ _ hf hP hS dX4_count_107
            · replace hf := if_f c_6 hf
              by_cases c_8 : p1 = 5
              · replace hf := if_t c_8 hf
                refine lv_tableIn (off := 85) (tgt := 108) hx hb dX4_count_23 (by rw [c_8]; decide +kernel) (by rw [c_8]; decide +kernel) (by rw [c_8]; decide +kernel) (by decide) ?_
                refine lv_aload_n hx hb dX4_count_108 rfl (lv_at hl 0 rfl) ?_
                refine va_get (D := D) (ci := 4) (v := .ref (A 1)) (C := RX4) (T := TX4) (N := 8) hx hb hts hw4 hown hK hP 0 cX_at0 rfl 0 (by decide) k10 (fun _ h9 => h9) rfl dX4_count_109 ?_
                obtain ⟨a_9, ha_9, hf⟩ := bd_e hf
                refine Ct.callV (As := []) (rest := []) (st1 := [.int a_9]) (c_X0_allSins l D cI (fun j => A (1 + j)) n a_9 ha_9) hx hb hml hown hts (cwV 0 hts gX4_count_X0_allSins rfl rfl rfl hd_X0_allSins ⟨Nat.le_of_ble_eq_true rfl, Nat.le_of_ble_eq_true rfl⟩) (va_recv hK hP (ci := 0) (q0 := 1) rfl cX_at1) ln_X_H_n hA hK hP hD hS rfl hl.1 rfl rfl (Nat.le_of_ble_eq_true rfl) dX4_count_112 (fun H locs hP hD hS => ?_)
                exact hend a_9 H locs _ _ hf hP hS dX4_count_115
              · replace hf := if_f c_8 hf
                by_cases c_10 : p1 = 6
                · replace hf := if_t c_10 hf
                  refine lv_tableIn (off := 93) (tgt := 116) hx hb dX4_count_23 (by rw [c_10]; decide +kernel) (by rw [c_10]; decide +kernel) (by rw [c_10]; decide +kernel) (by decide) ?_
                  refine lv_aload_n hx hb dX4_count_116 rfl (lv_at hl 0 rfl) ?_
                  refine va_get (D := D) (ci := 4) (v := .ref (A 30)) (C := RX4) (T := TX4) (N := 8) hx hb hts hw4 hown hK hP 0 cX_at0 rfl 4 (by decide) k32 (fun _ h9 => h9) rfl dX4_count_117 ?_
                  refine va_get (D := D) (ci := 3) (v := .int (w 1 0)) (C := RX3) (T := TX3) (N := 2) hx hb hts hw3 hown hK hP 30 cX_at30 rfl 1 (by decide) k239 (fun _ h9 => h9) rfl dX4_count_120 ?_
                  exact hend (w 1 0) H locs _ _ hf hP hS dX4_count_123
                · replace hf := if_f c_10 hf
                  by_cases c_11 : p1 = 7
                  · replace hf := if_t c_11 hf
                    refine lv_tableIn (off := 101) (tgt := 124) hx hb dX4_count_23 (by rw [c_11]; decide +kernel) (by rw [c_11]; decide +kernel) (by rw [c_11]; decide +kernel) (by decide) ?_
                    refine lv_aload_n hx hb dX4_count_124 rfl (lv_at hl 0 rfl) ?_
                    refine va_get (D := D) (ci := 4) (v := .ref (A 28)) (C := RX4) (T := TX4) (N := 8) hx hb hts hw4 hown hK hP 0 cX_at0 rfl 3 (by decide) k25 (fun _ h9 => h9) rfl dX4_count_125 ?_
                    refine va_get (D := D) (ci := 1) (v := .int (g 1 0)) (C := RX1) (T := TX1) (N := 2) hx hb hts hw1 hown hK hP 28 cX_at28 rfl 1 (by decide) k242 (fun _ h9 => h9) rfl dX4_count_128 ?_
                    exact hend (g 1 0) H locs _ _ hf hP hS dX4_count_131
                  · replace hf := if_f c_11 hf
                    have ht : (p1).toInt < 0 ∨ 7 < (p1).toInt := by
                      have t0 := lv_neT (a := 0) c_2 (by decide +kernel)
                      have t1 := lv_neT (a := 1) c_3 (by decide +kernel)
                      have t2 := lv_neT (a := 2) c_4 (by decide +kernel)
                      have t3 := lv_neT (a := 3) c_5 (by decide +kernel)
                      have t4 := lv_neT (a := 4) c_6 (by decide +kernel)
                      have t5 := lv_neT (a := 5) c_8 (by decide +kernel)
                      have t6 := lv_neT (a := 6) c_10 (by decide +kernel)
                      have t7 := lv_neT (a := 7) c_11 (by decide +kernel)
                      omega
                    refine lv_tableOut (tgt := 132) hx hb dX4_count_23 ht (by decide) ?_
                    refine lv_bipush (v := -9) hx hb dX4_count_132 (by decide +kernel) ?_
                    exact hend (-9 : Int32) H locs _ _ hf hP hS dX4_count_134
  · replace hf := if_f c_1 hf
    refine lv_iload_n hx hb dX4_count_6 rfl (lv_at hl 1 rfl) ?_
    refine lv_bipush (v := 16) hx hb dX4_count_7 (by decide +kernel) ?_
    refine lv_icmp_gt (tgt := 22) hx hb dX4_count_9 (by decide) (fun c_12 => ?_) (fun c_12 => ?_)
    · replace hf := if_t c_12 hf
      refine lv_iload_n hx hb dX4_count_22 rfl (lv_at hl 1 rfl) ?_
      by_cases c_13 : p1 = 0
      · replace hf := if_t c_13 hf
        refine lv_tableIn (off := 45) (tgt := 68) hx hb dX4_count_23 (by rw [c_13]; decide +kernel) (by rw [c_13]; decide +kernel) (by rw [c_13]; decide +kernel) (by decide) ?_
        refine lv_aload_n hx hb dX4_count_68 rfl (lv_at hl 0 rfl) ?_
        refine va_get (D := D) (ci := 4) (v := .ref (A 1)) (C := RX4) (T := TX4) (N := 8) hx hb hts hw4 hown hK hP 0 cX_at0 rfl 0 (by decide) k10 (fun _ h9 => h9) rfl dX4_count_69 ?_
        refine va_get (D := D) (ci := 0) (v := .int (n 16 0)) (C := RX0) (T := TX0) (N := 12) hx hb hts hw0 hown hK hP 1 cX_at1 rfl 0 (by decide) k136 (fun _ h9 => h9) rfl dX4_count_72 ?_
        exact hend (n 16 0) H locs _ _ hf hP hS dX4_count_75
      · replace hf := if_f c_13 hf
        by_cases c_14 : p1 = 1
        · replace hf := if_t c_14 hf
          refine lv_tableIn (off := 53) (tgt := 76) hx hb dX4_count_23 (by rw [c_14]; decide +kernel) (by rw [c_14]; decide +kernel) (by rw [c_14]; decide +kernel) (by decide) ?_
          refine lv_aload_n hx hb dX4_count_76 rfl (lv_at hl 0 rfl) ?_
          refine va_get (D := D) (ci := 4) (v := .ref (A 1)) (C := RX4) (T := TX4) (N := 8) hx hb hts hw4 hown hK hP 0 cX_at0 rfl 0 (by decide) k10 (fun _ h9 => h9) rfl dX4_count_77 ?_
          refine va_get (D := D) (ci := 0) (v := .int (n 16 1)) (C := RX0) (T := TX0) (N := 12) hx hb hts hw0 hown hK hP 1 cX_at1 rfl 4 (by decide) k155 (fun _ h9 => h9) rfl dX4_count_80 ?_
          exact hend (n 16 1) H locs _ _ hf hP hS dX4_count_83
        · replace hf := if_f c_14 hf
          by_cases c_15 : p1 = 2
          · replace hf := if_t c_15 hf
            refine lv_tableIn (off := 61) (tgt := 84) hx hb dX4_count_23 (by rw [c_15]; decide +kernel) (by rw [c_15]; decide +kernel) (by rw [c_15]; decide +kernel) (by decide) ?_
            refine lv_aload_n hx hb dX4_count_84 rfl (lv_at hl 0 rfl) ?_
            refine va_get (D := D) (ci := 4) (v := .ref (A 1)) (C := RX4) (T := TX4) (N := 8) hx hb hts hw4 hown hK hP 0 cX_at0 rfl 0 (by decide) k10 (fun _ h9 => h9) rfl dX4_count_85 ?_
            refine va_get (D := D) (ci := 0) (v := .int (n 16 3)) (C := RX0) (T := TX0) (N := 12) hx hb hts hw0 hown hK hP 1 cX_at1 rfl 10 (by decide) k177 (fun _ h9 => h9) rfl dX4_count_88 ?_
            exact hend (n 16 3) H locs _ _ hf hP hS dX4_count_91
          · replace hf := if_f c_15 hf
            by_cases c_16 : p1 = 3
            · replace hf := if_t c_16 hf
              refine lv_tableIn (off := 69) (tgt := 92) hx hb dX4_count_23 (by rw [c_16]; decide +kernel) (by rw [c_16]; decide +kernel) (by rw [c_16]; decide +kernel) (by decide) ?_
              refine lv_aload_n hx hb dX4_count_92 rfl (lv_at hl 0 rfl) ?_
              refine va_get (D := D) (ci := 4) (v := .ref (A 1)) (C := RX4) (T := TX4) (N := 8) hx hb hts hw4 hown hK hP 0 cX_at0 rfl 0 (by decide) k10 (fun _ h9 => h9) rfl dX4_count_93 ?_
              refine va_get (D := D) (ci := 0) (v := .int (n 16 2)) (C := RX0) (T := TX0) (N := 12) hx hb hts hw0 hown hK hP 1 cX_at1 rfl 9 (by decide) k167 (fun _ h9 => h9) rfl dX4_count_96 ?_
              exact hend (n 16 2) H locs _ _ hf hP hS dX4_count_99
            · replace hf := if_f c_16 hf
              by_cases c_17 : p1 = 4
              · replace hf := if_t c_17 hf
                refine lv_tableIn (off := 77) (tgt := 100) hx hb dX4_count_23 (by rw [c_17]; decide +kernel) (by rw [c_17]; decide +kernel) (by rw [c_17]; decide +kernel) (by decide) ?_
                refine lv_aload_n hx hb dX4_count_100 rfl (lv_at hl 0 rfl) ?_
                refine va_get (D := D) (ci := 4) (v := .ref (A 1)) (C := RX4) (T := TX4) (N := 8) hx hb hts hw4 hown hK hP 0 cX_at0 rfl 0 (by decide) k10 (fun _ h9 => h9) rfl dX4_count_101 ?_
                obtain ⟨a_18, ha_18, hf⟩ := bd_e hf
                refine Ct.callV (As := []) (rest := []) (st1 := [.int a_18]) (c_X0_outBits l D cI (fun j => A (1 + j)) n a_18 ha_18) hx hb hml hown hts (cwV 0 hts gX4_count_X0_outBits rfl rfl rfl hd_X0_outBits ⟨Nat.le_of_ble_eq_true rfl, Nat.le_of_ble_eq_true rfl⟩) (va_recv hK hP (ci := 0) (q0 := 1) rfl cX_at1) ln_X_H_n hA hK hP hD hS rfl hl.1 rfl rfl (Nat.le_of_ble_eq_true rfl) dX4_count_104 (fun H locs hP hD hS => ?_)
                exact hend a_18 H locs _ _ hf hP hS dX4_count_107
              · replace hf := if_f c_17 hf
                by_cases c_19 : p1 = 5
                · replace hf := if_t c_19 hf
                  refine lv_tableIn (off := 85) (tgt := 108) hx hb dX4_count_23 (by rw [c_19]; decide +kernel) (by rw [c_19]; decide +kernel) (by rw [c_19]; decide +kernel) (by decide) ?_
                  refine lv_aload_n hx hb dX4_count_108 rfl (lv_at hl 0 rfl) ?_
                  refine va_get (D := D) (ci := 4) (v := .ref (A 1)) (C := RX4) (T := TX4) (N := 8) hx hb hts hw4 hown hK hP 0 cX_at0 rfl 0 (by decide) k10 (fun _ h9 => h9) rfl dX4_count_109 ?_
                  obtain ⟨a_20, ha_20, hf⟩ := bd_e hf
                  refine Ct.callV (As := []) (rest := []) (st1 := [.int a_20]) (c_X0_allSins l D cI (fun j => A (1 + j)) n a_20 ha_20) hx hb hml hown hts (cwV 0 hts gX4_count_X0_allSins rfl rfl rfl hd_X0_allSins ⟨Nat.le_of_ble_eq_true rfl, Nat.le_of_ble_eq_true rfl⟩) (va_recv hK hP (ci := 0) (q0 := 1) rfl cX_at1) ln_X_H_n hA hK hP hD hS rfl hl.1 rfl rfl (Nat.le_of_ble_eq_true rfl) dX4_count_112 (fun H locs hP hD hS => ?_)
                  exact hend a_20 H locs _ _ hf hP hS dX4_count_115
                · replace hf := if_f c_19 hf
                  by_cases c_21 : p1 = 6
                  · replace hf := if_t c_21 hf
                    refine lv_tableIn (off := 93) (tgt := 116) hx hb dX4_count_23 (by rw [c_21]; decide +kernel) (by rw [c_21]; decide +kernel) (by rw [c_21]; decide +kernel) (by decide) ?_
                    refine lv_aload_n hx hb dX4_count_116 rfl (lv_at hl 0 rfl) ?_
                    refine va_get (D := D) (ci := 4) (v := .ref (A 30)) (C := RX4) (T := TX4) (N := 8) hx hb hts hw4 hown hK hP 0 cX_at0 rfl 4 (by decide) k32 (fun _ h9 => h9) rfl dX4_count_117 ?_
                    refine va_get (D := D) (ci := 3) (v := .int (w 1 0)) (C := RX3) (T := TX3) (N := 2) hx hb hts hw3 hown hK hP 30 cX_at30 rfl 1 (by decide) k239 (fun _ h9 => h9) rfl dX4_count_120 ?_
                    exact hend (w 1 0) H locs _ _ hf hP hS dX4_count_123
                  · replace hf := if_f c_21 hf
                    by_cases c_22 : p1 = 7
                    · replace hf := if_t c_22 hf
                      refine lv_tableIn (off := 101) (tgt := 124) hx hb dX4_count_23 (by rw [c_22]; decide +kernel) (by rw [c_22]; decide +kernel) (by rw [c_22]; decide +kernel) (by decide) ?_
                      refine lv_aload_n hx hb dX4_count_124 rfl (lv_at hl 0 rfl) ?_
                      refine va_get (D := D) (ci := 4) (v := .ref (A 28)) (C := RX4) (T := TX4) (N := 8) hx hb hts hw4 hown hK hP 0 cX_at0 rfl 3 (by decide) k25 (fun _ h9 => h9) rfl dX4_count_125 ?_
                      refine va_get (D := D) (ci := 1) (v := .int (g 1 0)) (C := RX1) (T := TX1) (N := 2) hx hb hts hw1 hown hK hP 28 cX_at28 rfl 1 (by decide) k242 (fun _ h9 => h9) rfl dX4_count_128 ?_
                      exact hend (g 1 0) H locs _ _ hf hP hS dX4_count_131
                    · replace hf := if_f c_22 hf
                      have ht : (p1).toInt < 0 ∨ 7 < (p1).toInt := by
                        have t0 := lv_neT (a := 0) c_13 (by decide +kernel)
                        have t1 := lv_neT (a := 1) c_14 (by decide +kernel)
                        have t2 := lv_neT (a := 2) c_15 (by decide +kernel)
                        have t3 := lv_neT (a := 3) c_16 (by decide +kernel)
                        have t4 := lv_neT (a := 4) c_17 (by decide +kernel)
                        have t5 := lv_neT (a := 5) c_19 (by decide +kernel)
                        have t6 := lv_neT (a := 6) c_21 (by decide +kernel)
                        have t7 := lv_neT (a := 7) c_22 (by decide +kernel)
                        omega
                      refine lv_tableOut (tgt := 132) hx hb dX4_count_23 ht (by decide) ?_
                      refine lv_bipush (v := -9) hx hb dX4_count_132 (by decide +kernel) ?_
                      exact hend (-9 : Int32) H locs _ _ hf hP hS dX4_count_134
    · replace hf := if_f c_12 hf
      refine lv_aload_n hx hb dX4_count_12 rfl (lv_at hl 0 rfl) ?_
      refine va_get (D := D) (ci := 4) (v := .ref (A 33)) (C := RX4) (T := TX4) (N := 8) hx hb hts hw4 hown hK hP 0 cX_at0 rfl 6 (by decide) k43 (fun _ h9 => h9) rfl dX4_count_13 ?_
      refine lv_iload_n hx hb dX4_count_16 rfl (lv_at hl 1 rfl) ?_
      refine lv_bipush (v := 10) hx hb dX4_count_17 (by decide +kernel) ?_
      refine lv_isub hx hb dX4_count_19 ?_
      obtain ⟨c_23, hf⟩ := gi_e hf
      refine va_iald hx hb hK hP 33 0 cX_at33 rfl c_23 dX4_count_20 ?_
      exact hend (q 0 ((p1 - (10 : Int32))).toNatClampNeg) H locs _ _ hf hP hS dX4_count_21
