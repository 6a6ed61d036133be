def rm_X4_refused : Room := { frames := 0, cells := 0, slots := 0, locals := 0 }
theorem hd_X4_refused : yX4_refused.cls = RX4 ∧ yX4_refused.cls ≠ "java/lang/invoke/MethodHandle" ∧ yX4_refused.cls ≠ "java/lang/invoke/VarHandle" ∧ (parseMethodDescriptor yX4_refused.desc).map (fun d => d.parameters.length) = some 1 := by decide +kernel
set_option maxRecDepth 100000 in
set_option maxHeartbeats 4000000 in
theorem c_X4_refused (l : Launch) (D : va_G) (cI : ClassId) (A : Nat → Nat) (n : St) (t : St) (k : St) (g : St) (w : St) (z : St) (q : St) (p1 : Int32) (r : Int32 × St) (hf : f_X4_refused n t k g w z q p1 = some r) : Ct l yX4_refused wsX4_refused rm_X4_refused D cI (cX cI A n t k g w z q) (cX cI A n t k g w z r.2) [.ref (A 0), .int p1] (some (.int r.1)) := by
  unfold f_X4_refused at hf
  refine Ct.ofI (cc := cX4_refused) (maxL := 3) (by decide +kernel) rfl (Nat.le_of_ble_eq_true rfl) ?_
  intro p e s m args below meth c AA Q H locs ls hx hb hml hown hts hA hK hP hD hS hl hend0
  have hend : ∀ (r1 : Int32 × St) (H : Heap) (locs : List Loc) (pc : Nat) (ls : Array Slot), some r1 = some r → va_P D vwCl (cX cI A n t k g w z r1.2) H → va_S AA s.heap H locs → decode cX4_refused pc = .ok (.ireturn, 1) → W p l e rm_X4_refused s m args below meth c H locs 0 0 Q (F0 m pc ls [.int r1.1]) := by
    intro r1 H locs pc ls e1 hP hS hd; cases e1; exact hend0 H locs pc ls hP hS hd
  clear hend0
  have hw4 : ∀ w ∈ wsX40, w ∈ wsX4_refused := by decide +kernel
  have k43 := hts (.fieldLink RX4 43 "AnchorsForConfession" "refusals" "[I") (by decide +kernel)
  replace hl : lv_has ls 3 [(0, .ref (A 0)), (1, .int p1)] := hl
  refine lv_iload_n hx hb dX4_refused_0 rfl (lv_at hl 1 rfl) ?_
  refine lv_ineg hx hb dX4_refused_1 ?_
  refine lv_topi (fun v_1 ev_1 => ?_)
  replace hf := nm_at ev_1 hf
  refine lv_istore_n (lv' := [(2, .int v_1), (0, .ref (A 0)), (1, .int p1)]) hx hb dX4_refused_2 rfl hl (by decide) rfl (fun ls hl => ?_)
  refine lv_iload_n hx hb dX4_refused_3 rfl (lv_at hl 0 rfl) ?_
  refine lv_if_lt (tgt := 26) hx hb dX4_refused_4 (by decide) (fun c_2 => ?_) (fun c_2 => ?_)
  · replace hf := if_t c_2 hf
    refine lv_iload_n hx hb dX4_refused_26 rfl (lv_at hl 2 rfl) ?_
    exact hend (p1, q) H locs _ _ hf hP hS dX4_refused_27
  · replace hf := if_f c_2 hf
    refine lv_iload_n hx hb dX4_refused_7 rfl (lv_at hl 0 rfl) ?_
    refine lv_aload_n hx hb dX4_refused_8 rfl (lv_at hl 1 rfl) ?_
    refine va_get (D := D) (ci := 4) (v := .ref (A 33)) (C := RX4) (T := TX4) (N := 8) hx hb hts hw4 hown hK hP 0 cX_at0 rfl 6 (by decide) k43 (fun _ h9 => h9) rfl dX4_refused_9 ?_
    refine va_alen hx hb hK hP 33 0 cX_at33 rfl (v := 7) rfl dX4_refused_12 ?_
    refine lv_icmp_ge (tgt := 26) hx hb dX4_refused_13 (by decide) (fun c_3 => ?_) (fun c_3 => ?_)
    · replace hf := if_t c_3 hf
      refine lv_iload_n hx hb dX4_refused_26 rfl (lv_at hl 2 rfl) ?_
      exact hend (p1, q) H locs _ _ hf hP hS dX4_refused_27
    · replace hf := if_f c_3 hf
      refine lv_aload_n hx hb dX4_refused_16 rfl (lv_at hl 1 rfl) ?_
      refine va_get (D := D) (ci := 4) (v := .ref (A 33)) (C := RX4) (T := TX4) (N := 8) hx hb hts hw4 hown hK hP 0 cX_at0 rfl 6 (by decide) k43 (fun _ h9 => h9) rfl dX4_refused_17 ?_
      refine lv_iload_n hx hb dX4_refused_20 rfl (lv_at hl 0 rfl) ?_
      refine lv_dup2_11 hx hb dX4_refused_21 rfl rfl ?_
      obtain ⟨c_4, hf⟩ := gi_e hf
      refine va_iald hx hb hK hP 33 0 cX_at33 rfl c_4 dX4_refused_22 ?_
      refine lv_iconst (v := 1) hx hb dX4_refused_23 (by decide) ?_
      refine lv_iadd hx hb dX4_refused_24 ?_
      obtain ⟨c_5, hf⟩ := gi_e hf
      refine va_iast hx hb hK hP hD hS 33 0 cX_at33 rfl c_5 dX4_refused_25 (fun H locs hP hD hS => ?_)
      obtain ⟨h_6, eh_6, hf⟩ := nq_e hf
      rw [cX_su33, ← eh_6] at hP hD
      refine lv_iload_n hx hb dX4_refused_26 rfl (lv_at hl 2 rfl) ?_
      exact hend (p1, h_6) H locs _ _ hf hP hS dX4_refused_27

def rm_X4_letter : Room := { frames := 1, cells := 0, slots := 0, locals := 22 }
theorem hd_X4_letter : yX4_letter.cls = RX4 ∧ yX4_letter.cls ≠ "java/lang/invoke/MethodHandle" ∧ yX4_letter.cls ≠ "java/lang/invoke/VarHandle" ∧ (parseMethodDescriptor yX4_letter.desc).map (fun d => d.parameters.length) = some 1 := by decide +kernel
set_option maxRecDepth 100000 in
set_option maxHeartbeats 4000000 in
theorem c_X4_letter (l : Launch) (D : va_G) (cI : ClassId) (A : Nat → Nat) (n : St) (t : St) (k : St) (g : St) (w : St) (z : St) (q : St) (p1 : Int32) (r : Int32 × St × St) (hf : f_X4_letter n t k g w z q p1 = some r) : Ct l yX4_letter wsX4_letter rm_X4_letter D cI (cX cI A n t k g w z q) (cX cI A n t k r.2.1 w z r.2.2) [.ref (A 0), .int p1] (some (.int r.1)) := by
  unfold f_X4_letter at hf
  refine Ct.ofI (cc := cX4_letter) (maxL := 2) (by decide +kernel) rfl (Nat.le_of_ble_eq_true rfl) ?_
  intro p e s m args below meth c AA Q H locs ls hx hb hml hown hts hA hK hP hD hS hl hend0
  have hend : ∀ (r1 : Int32 × St × St) (H : Heap) (locs : List Loc) (pc : Nat) (ls : Array Slot), some r1 = some r → va_P D vwCl (cX cI A n t k r1.2.1 w z r1.2.2) H → va_S AA s.heap H locs → decode cX4_letter pc = .ok (.ireturn, 1) → W p l e rm_X4_letter s m args below meth c H locs 0 0 Q (F0 m pc ls [.int r1.1]) := by
    intro r1 H locs pc ls e1 hP hS hd; cases e1; exact hend0 H locs pc ls hP hS hd
  clear hend0
  have hw4 : ∀ w ∈ wsX40, w ∈ wsX4_letter := by decide +kernel
  have k25 := hts (.fieldLink RX4 25 "AnchorsForConfession" "letters" "LAnchorsForConfession$Letters;") (by decide +kernel)
  replace hl : lv_has ls 2 [(0, .ref (A 0)), (1, .int p1)] := hl
  refine lv_iload_n hx hb dX4_letter_0 rfl (lv_at hl 1 rfl) ?_
  refine lv_if_ge (tgt := 11) hx hb dX4_letter_1 (by decide) (fun c_1 => ?_) (fun c_1 => ?_)
  · replace hf := if_t c_1 hf
    refine lv_iload_n hx hb dX4_letter_11 rfl (lv_at hl 1 rfl) ?_
    refine lv_sipush (v := 255) hx hb dX4_letter_12 (by decide +kernel) ?_
    refine lv_icmp_gt (tgt := 28) hx hb dX4_letter_15 (by decide) (fun c_2 => ?_) (fun c_2 => ?_)
    · replace hf := if_t c_2 hf
      refine lv_aload_n hx hb dX4_letter_28 rfl (lv_at hl 0 rfl) ?_
      refine lv_bipush (v := -6) hx hb dX4_letter_29 (by decide +kernel) ?_
      obtain ⟨a_3, ha_3, hf⟩ := bd_e hf
      refine Ct.callV (As := [.int (-6 : Int32)]) (rest := []) (st1 := [.int a_3.1]) (c_X4_refused l D cI A n t k g w z q (-6 : Int32) a_3 ha_3) hx hb hml hown hts (cwV 1 hts gX4_letter_X4_refused rfl rfl rfl hd_X4_refused ⟨Nat.le_of_ble_eq_true rfl, Nat.le_of_ble_eq_true rfl⟩) (va_recv hK hP (ci := 4) (q0 := 0) rfl cX_at0) (Ln.id rfl) hA hK hP hD hS rfl hl.1 rfl rfl (Nat.le_of_ble_eq_true rfl) dX4_letter_31 (fun H locs hP hD hS => ?_)
      replace hP : va_P D vwCl (cX cI A n t k g w z a_3.2) H := hP
      replace hD : va_D AA (cX cI A n t k g w z a_3.2) := hD
      exact hend (a_3.1, g, a_3.2) H locs _ _ hf hP hS dX4_letter_34
    · replace hf := if_f c_2 hf
      refine lv_aload_n hx hb dX4_letter_18 rfl (lv_at hl 0 rfl) ?_
      refine va_get (D := D) (ci := 4) (v := .ref (A 28)) (C := RX4) (T := TX4) (N := 8) hx hb hts hw4 hown hK hP 0 cX_at0 rfl 3 (by decide) k25 (fun _ h9 => h9) rfl dX4_letter_19 ?_
      obtain ⟨a_4, ha_4, hf⟩ := bd_e hf
      refine Ct.callV (As := []) (rest := []) (st1 := [.int a_4]) (c_X1_isFull l D cI (fun j => A (28 + j)) g a_4 ha_4) hx hb hml hown hts (cwV 0 hts gX4_letter_X1_isFull rfl rfl rfl hd_X1_isFull ⟨Nat.le_of_ble_eq_true rfl, Nat.le_of_ble_eq_true rfl⟩) (va_recv hK hP (ci := 1) (q0 := 28) rfl cX_at28) ln_X_G hA hK hP hD hS rfl hl.1 rfl rfl (Nat.le_of_ble_eq_true rfl) dX4_letter_22 (fun H locs hP hD hS => ?_)
      refine lv_if_eq (tgt := 35) hx hb dX4_letter_25 (by decide) (fun c_5 => ?_) (fun c_5 => ?_)
      · replace hf := if_t c_5 hf
        refine lv_aload_n hx hb dX4_letter_35 rfl (lv_at hl 0 rfl) ?_
        refine va_get (D := D) (ci := 4) (v := .ref (A 28)) (C := RX4) (T := TX4) (N := 8) hx hb hts hw4 hown hK hP 0 cX_at0 rfl 3 (by decide) k25 (fun _ h9 => h9) rfl dX4_letter_36 ?_
        refine lv_iload_n hx hb dX4_letter_39 rfl (lv_at hl 1 rfl) ?_
        obtain ⟨a_6, ha_6, hf⟩ := bd_e hf
        refine Ct.callV (As := [.int p1]) (rest := []) (st1 := [.int a_6.1]) (c_X1_add l D cI (fun j => A (28 + j)) g p1 a_6 ha_6) hx hb hml hown hts (cwV 1 hts gX4_letter_X1_add rfl rfl rfl hd_X1_add ⟨Nat.le_of_ble_eq_true rfl, Nat.le_of_ble_eq_true rfl⟩) (va_recv hK hP (ci := 1) (q0 := 28) rfl cX_at28) ln_X_G hA hK hP hD hS rfl hl.1 rfl rfl (Nat.le_of_ble_eq_true rfl) dX4_letter_40 (fun H locs hP hD hS => ?_)
        replace hP : va_P D vwCl (cX cI A n t k a_6.2 w z q) H := hP
        replace hD : va_D AA (cX cI A n t k a_6.2 w z q) := hD
        exact hend (a_6.1, a_6.2, q) H locs _ _ hf hP hS dX4_letter_43
      · replace hf := if_f c_5 hf
        refine lv_aload_n hx hb dX4_letter_28 rfl (lv_at hl 0 rfl) ?_
        refine lv_bipush (v := -6) hx hb dX4_letter_29 (by decide +kernel) ?_
        obtain ⟨a_7, ha_7, hf⟩ := bd_e hf
        refine Ct.callV (As := [.int (-6 : Int32)]) (rest := []) (st1 := [.int a_7.1]) (c_X4_refused l D cI A n t k g w z q (-6 : Int32) a_7 ha_7) hx hb hml hown hts (cwV 1 hts gX4_letter_X4_refused rfl rfl rfl hd_X4_refused ⟨Nat.le_of_ble_eq_true rfl, Nat.le_of_ble_eq_true rfl⟩) (va_recv hK hP (ci := 4) (q0 := 0) rfl cX_at0) (Ln.id rfl) hA hK hP hD hS rfl hl.1 rfl rfl (Nat.le_of_ble_eq_true rfl) dX4_letter_31 (fun H locs hP hD hS => ?_)
        replace hP : va_P D vwCl (cX cI A n t k g w z a_7.2) H := hP
        replace hD : va_D AA (cX cI A n t k g w z a_7.2) := hD
        exact hend (a_7.1, g, a_7.2) H locs _ _ hf hP hS dX4_letter_34
  · replace hf := if_f c_1 hf
    refine lv_aload_n hx hb dX4_letter_4 rfl (lv_at hl 0 rfl) ?_
    refine lv_bipush (v := -4) hx hb dX4_letter_5 (by decide +kernel) ?_
    obtain ⟨a_8, ha_8, hf⟩ := bd_e hf
    refine Ct.callV (As := [.int (-4 : Int32)]) (rest := []) (st1 := [.int a_8.1]) (c_X4_refused l D cI A n t k g w z q (-4 : Int32) a_8 ha_8) hx hb hml hown hts (cwV 1 hts gX4_letter_X4_refused rfl rfl rfl hd_X4_refused ⟨Nat.le_of_ble_eq_true rfl, Nat.le_of_ble_eq_true rfl⟩) (va_recv hK hP (ci := 4) (q0 := 0) rfl cX_at0) (Ln.id rfl) hA hK hP hD hS rfl hl.1 rfl rfl (Nat.le_of_ble_eq_true rfl) dX4_letter_7 (fun H locs hP hD hS => ?_)
    replace hP : va_P D vwCl (cX cI A n t k g w z a_8.2) H := hP
    replace hD : va_D AA (cX cI A n t k g w z a_8.2) := hD
    exact hend (a_8.1, g, a_8.2) H locs _ _ hf hP hS dX4_letter_10

def rm_X4_tells : Room := { frames := 4, cells := 0, slots := 0, locals := 89 }
theorem hd_X4_tells : yX4_tells.cls = RX4 ∧ yX4_tells.cls ≠ "java/lang/invoke/MethodHandle" ∧ yX4_tells.cls ≠ "java/lang/invoke/VarHandle" ∧ (parseMethodDescriptor yX4_tells.desc).map (fun d => d.parameters.length) = some 1 := by decide +kernel
set_option maxRecDepth 100000 in
set_option maxHeartbeats 4000000 in
theorem c_X4_tells (l : Launch) (D : va_G) (cI : ClassId) (A : Nat → Nat) (n : St) (t : St) (k : St) (g : St) (w : St) (z : St) (q : St) (p1 : Int32) (r : Int32 × St × St) (hf : f_X4_tells n t k g w z q p1 = some r) : Ct l yX4_tells wsX4_tells rm_X4_tells D cI (cX cI A n t k g w z q) (cX cI A r.2.1 t k g w z r.2.2) [.ref (A 0), .int p1] (some (.int r.1)) := by
  unfold f_X4_tells at hf
  refine Ct.ofI (cc := cX4_tells) (maxL := 2) (by decide +kernel) rfl (Nat.le_of_ble_eq_true rfl) ?_
  intro p e s m args below meth c AA Q H locs ls hx hb hml hown hts hA hK hP hD hS hl hend0
  have hend : ∀ (r1 : Int32 × St × St) (H : Heap) (locs : List Loc) (pc : Nat) (ls : Array Slot), some r1 = some r → va_P D vwCl (cX cI A r1.2.1 t k g w z r1.2.2) H → va_S AA s.heap H locs → decode cX4_tells pc = .ok (.ireturn, 1) → W p l e rm_X4_tells s m args below meth c H locs 0 0 Q (F0 m pc ls [.int r1.1]) := by
    intro r1 H locs pc ls e1 hP hS hd; cases e1; exact hend0 H locs pc ls hP hS hd
  clear hend0
  have hw4 : ∀ w ∈ wsX40, w ∈ wsX4_tells := by decide +kernel
  have k10 := hts (.fieldLink RX4 10 "AnchorsForConfession" "now" "LAnchorsForConfession$Harbour;") (by decide +kernel)
  replace hl : lv_has ls 2 [(0, .ref (A 0)), (1, .int p1)] := hl
  refine lv_aload_n hx hb dX4_tells_0 rfl (lv_at hl 0 rfl) ?_
  refine va_get (D := D) (ci := 4) (v := .ref (A 1)) (C := RX4) (T := TX4) (N := 8) hx hb hts hw4 hown hK hP 0 cX_at0 rfl 0 (by decide) k10 (fun _ h9 => h9) rfl dX4_tells_1 ?_
  refine lv_iload_n hx hb dX4_tells_4 rfl (lv_at hl 1 rfl) ?_
  obtain ⟨a_1, ha_1, hf⟩ := bd_e hf
  refine Ct.callV (As := [.int p1]) (rest := []) (st1 := [.int a_1]) (c_X0_hasMan l D cI (fun j => A (1 + j)) n p1 a_1 ha_1) hx hb hml hown hts (cwV 1 hts gX4_tells_X0_hasMan rfl rfl rfl hd_X0_hasMan ⟨Nat.le_of_ble_eq_true rfl, Nat.le_of_ble_eq_true rfl⟩) (va_recv hK hP (ci := 0) (q0 := 1) rfl cX_at1) ln_X_H_n hA hK hP hD hS rfl hl.1 rfl rfl (Nat.le_of_ble_eq_true rfl) dX4_tells_5 (fun H locs hP hD hS => ?_)
  refine lv_if_ne (tgt := 17) hx hb dX4_tells_8 (by decide) (fun c_2 => ?_) (fun c_2 => ?_)
  · replace hf := if_f c_2 hf
    refine lv_aload_n hx hb dX4_tells_17 rfl (lv_at hl 0 rfl) ?_
    refine va_get (D := D) (ci := 4) (v := .ref (A 1)) (C := RX4) (T := TX4) (N := 8) hx hb hts hw4 hown hK hP 0 cX_at0 rfl 0 (by decide) k10 (fun _ h9 => h9) rfl dX4_tells_18 ?_
    refine lv_iload_n hx hb dX4_tells_21 rfl (lv_at hl 1 rfl) ?_
    obtain ⟨a_3, ha_3, hf⟩ := bd_e hf
    refine Ct.callV (As := [.int p1]) (rest := []) (st1 := [.int a_3]) (c_X0_canTell l D cI (fun j => A (1 + j)) n p1 a_3 ha_3) hx hb hml hown hts (cwV 1 hts gX4_tells_X0_canTell rfl rfl rfl hd_X0_canTell ⟨Nat.le_of_ble_eq_true rfl, Nat.le_of_ble_eq_true rfl⟩) (va_recv hK hP (ci := 0) (q0 := 1) rfl cX_at1) ln_X_H_n hA hK hP hD hS rfl hl.1 rfl rfl (Nat.le_of_ble_eq_true rfl) dX4_tells_22 (fun H locs hP hD hS => ?_)
    refine lv_if_ne (tgt := 35) hx hb dX4_tells_25 (by decide) (fun c_4 => ?_) (fun c_4 => ?_)
    · replace hf := if_f c_4 hf
      refine lv_aload_n hx hb dX4_tells_35 rfl (lv_at hl 0 rfl) ?_
      refine va_get (D := D) (ci := 4) (v := .ref (A 1)) (C := RX4) (T := TX4) (N := 8) hx hb hts hw4 hown hK hP 0 cX_at0 rfl 0 (by decide) k10 (fun _ h9 => h9) rfl dX4_tells_36 ?_
      refine lv_iload_n hx hb dX4_tells_39 rfl (lv_at hl 1 rfl) ?_
      obtain ⟨a_5, ha_5, hf⟩ := bd_e hf
      refine Ct.callV (As := [.int p1]) (rest := []) (st1 := [.int a_5.1]) (c_X0_word l D cI (fun j => A (1 + j)) n p1 a_5 ha_5) hx hb hml hown hts (cwV 1 hts gX4_tells_X0_word rfl rfl rfl hd_X0_word ⟨Nat.le_of_ble_eq_true rfl, Nat.le_of_ble_eq_true rfl⟩) (va_recv hK hP (ci := 0) (q0 := 1) rfl cX_at1) ln_X_H_n hA hK hP hD hS rfl hl.1 rfl rfl (Nat.le_of_ble_eq_true rfl) dX4_tells_40 (fun H locs hP hD hS => ?_)
      replace hP : va_P D vwCl (cX cI A a_5.2 t k g w z q) H := hP
      replace hD : va_D AA (cX cI A a_5.2 t k g w z q) := hD
      exact hend (a_5.1, a_5.2, q) H locs _ _ hf hP hS dX4_tells_43
    · replace hf := if_t c_4 hf
      refine lv_aload_n hx hb dX4_tells_28 rfl (lv_at hl 0 rfl) ?_
      refine lv_bipush (v := -3) hx hb dX4_tells_29 (by decide +kernel) ?_
      obtain ⟨a_6, ha_6, hf⟩ := bd_e hf
      refine Ct.callV (As := [.int (-3 : Int32)]) (rest := []) (st1 := [.int a_6.1]) (c_X4_refused l D cI A n t k g w z q (-3 : Int32) a_6 ha_6) hx hb hml hown hts (cwV 1 hts gX4_tells_X4_refused rfl rfl rfl hd_X4_refused ⟨Nat.le_of_ble_eq_true rfl, Nat.le_of_ble_eq_true rfl⟩) (va_recv hK hP (ci := 4) (q0 := 0) rfl cX_at0) (Ln.id rfl) hA hK hP hD hS rfl hl.1 rfl rfl (Nat.le_of_ble_eq_true rfl) dX4_tells_31 (fun H locs hP hD hS => ?_)
      replace hP : va_P D vwCl (cX cI A n t k g w z a_6.2) H := hP
      replace hD : va_D AA (cX cI A n t k g w z a_6.2) := hD
      exact hend (a_6.1, n, a_6.2) H locs _ _ hf hP hS dX4_tells_34
  · replace hf := if_t c_2 hf
    refine lv_aload_n hx hb dX4_tells_11 rfl (lv_at hl 0 rfl) ?_
    refine lv_iconst (v := -1) hx hb dX4_tells_12 (by decide) ?_
    obtain ⟨a_7, ha_7, hf⟩ := bd_e hf
    refine Ct.callV (As := [.int (-1 : Int32)]) (rest := []) (st1 := [.int a_7.1]) (c_X4_refused l D cI A n t k g w z q (-1 : Int32) a_7 ha_7) hx hb hml hown hts (cwV 1 hts gX4_tells_X4_refused rfl rfl rfl hd_X4_refused ⟨Nat.le_of_ble_eq_true rfl, Nat.le_of_ble_eq_true rfl⟩) (va_recv hK hP (ci := 4) (q0 := 0) rfl cX_at0) (Ln.id rfl) hA hK hP hD hS rfl hl.1 rfl rfl (Nat.le_of_ble_eq_true rfl) dX4_tells_13 (fun H locs hP hD hS => ?_)
    replace hP : va_P D vwCl (cX cI A n t k g w z a_7.2) H := hP
    replace hD : va_D AA (cX cI A n t k g w z a_7.2) := hD
    exact hend (a_7.1, n, a_7.2) H locs _ _ hf hP hS dX4_tells_16

def rm_X4_boards : Room := { frames := 1, cells := 0, slots := 0, locals := 22 }
theorem hd_X4_boards : yX4_boards.cls = RX4 ∧ yX4_boards.cls ≠ "java/lang/invoke/MethodHandle" ∧ yX4_boards.cls ≠ "java/lang/invoke/VarHandle" ∧ (parseMethodDescriptor yX4_boards.desc).map (fun d => d.parameters.length) = some 2 := by decide +kernel
set_option maxRecDepth 100000 in
set_option maxHeartbeats 4000000 in
theorem c_X4_boards (l : Launch) (D : va_G) (cI : ClassId) (A : Nat → Nat) (n : St) (t : St) (k : St) (g : St) (w : St) (z : St) (q : St) (p1 : Int32) (p2 : Int32) (r : Int32 × St × St) (hf : f_X4_boards n t k g w z q p1 p2 = some r) : Ct l yX4_boards wsX4_boards rm_X4_boards D cI (cX cI A n t k g w z q) (cX cI A r.2.1 t k g w z r.2.2) [.ref (A 0), .int p1, .int p2] (some (.int r.1)) := by
  unfold f_X4_boards at hf
  refine Ct.ofI (cc := cX4_boards) (maxL := 4) (by decide +kernel) rfl (Nat.le_of_ble_eq_true rfl) ?_
  intro p e s m args below meth c AA Q H locs ls hx hb hml hown hts hA hK hP hD hS hl hend0
  have hend : ∀ (r1 : Int32 × St × St) (H : Heap) (locs : List Loc) (pc : Nat) (ls : Array Slot), some r1 = some r → va_P D vwCl (cX cI A r1.2.1 t k g w z r1.2.2) H → va_S AA s.heap H locs → decode cX4_boards pc = .ok (.ireturn, 1) → W p l e rm_X4_boards s m args below meth c H locs 0 0 Q (F0 m pc ls [.int r1.1]) := by
    intro r1 H locs pc ls e1 hP hS hd; cases e1; exact hend0 H locs pc ls hP hS hd
  clear hend0
  have hw0 : ∀ w ∈ wsX00, w ∈ wsX4_boards := by decide +kernel
  have hw4 : ∀ w ∈ wsX40, w ∈ wsX4_boards := by decide +kernel
  have k10 := hts (.fieldLink RX4 10 "AnchorsForConfession" "now" "LAnchorsForConfession$Harbour;") (by decide +kernel)
  have k86 := hts (.fieldLink RX4 86 "AnchorsForConfession$Harbour" "aboard" "[I") (by decide +kernel)
  replace hl : lv_has ls 4 [(0, .ref (A 0)), (1, .int p1), (2, .int p2)] := hl
  refine lv_aload_n hx hb dX4_boards_0 rfl (lv_at hl 0 rfl) ?_
  refine va_get (D := D) (ci := 4) (v := .ref (A 1)) (C := RX4) (T := TX4) (N := 8) hx hb hts hw4 hown hK hP 0 cX_at0 rfl 0 (by decide) k10 (fun _ h9 => h9) rfl dX4_boards_1 ?_
  refine lv_iload_n hx hb dX4_boards_4 rfl (lv_at hl 1 rfl) ?_
  obtain ⟨a_1, ha_1, hf⟩ := bd_e hf
  refine Ct.callV (As := [.int p1]) (rest := []) (st1 := [.int a_1]) (c_X0_hasMan l D cI (fun j => A (1 + j)) n p1 a_1 ha_1) hx hb hml hown hts (cwV 1 hts gX4_boards_X0_hasMan rfl rfl rfl hd_X0_hasMan ⟨Nat.le_of_ble_eq_true rfl, Nat.le_of_ble_eq_true rfl⟩) (va_recv hK hP (ci := 0) (q0 := 1) rfl cX_at1) ln_X_H_n hA hK hP hD hS rfl hl.1 rfl rfl (Nat.le_of_ble_eq_true rfl) dX4_boards_5 (fun H locs hP hD hS => ?_)
  refine lv_if_eq (tgt := 22) hx hb dX4_boards_8 (by decide) (fun c_2 => ?_) (fun c_2 => ?_)
  · replace hf := if_t c_2 hf
    refine lv_aload_n hx hb dX4_boards_22 rfl (lv_at hl 0 rfl) ?_
    refine lv_iconst (v := -1) hx hb dX4_boards_23 (by decide) ?_
    obtain ⟨a_3, ha_3, hf⟩ := bd_e hf
    refine Ct.callV (As := [.int (-1 : Int32)]) (rest := []) (st1 := [.int a_3.1]) (c_X4_refused l D cI A n t k g w z q (-1 : Int32) a_3 ha_3) hx hb hml hown hts (cwV 1 hts gX4_boards_X4_refused rfl rfl rfl hd_X4_refused ⟨Nat.le_of_ble_eq_true rfl, Nat.le_of_ble_eq_true rfl⟩) (va_recv hK hP (ci := 4) (q0 := 0) rfl cX_at0) (Ln.id rfl) hA hK hP hD hS rfl hl.1 rfl rfl (Nat.le_of_ble_eq_true rfl) dX4_boards_24 (fun H locs hP hD hS => ?_)
    replace hP : va_P D vwCl (cX cI A n t k g w z a_3.2) H := hP
    replace hD : va_D AA (cX cI A n t k g w z a_3.2) := hD
    exact hend (a_3.1, n, a_3.2) H locs _ _ hf hP hS dX4_boards_27
  · replace hf := if_f c_2 hf
    refine lv_aload_n hx hb dX4_boards_11 rfl (lv_at hl 0 rfl) ?_
    refine va_get (D := D) (ci := 4) (v := .ref (A 1)) (C := RX4) (T := TX4) (N := 8) hx hb hts hw4 hown hK hP 0 cX_at0 rfl 0 (by decide) k10 (fun _ h9 => h9) rfl dX4_boards_12 ?_
    refine lv_iload_n hx hb dX4_boards_15 rfl (lv_at hl 2 rfl) ?_
    obtain ⟨a_4, ha_4, hf⟩ := bd_e hf
    refine Ct.callV (As := [.int p2]) (rest := []) (st1 := [.int a_4]) (c_X0_hasShip l D cI (fun j => A (1 + j)) n p2 a_4 ha_4) hx hb hml hown hts (cwV 1 hts gX4_boards_X0_hasShip rfl rfl rfl hd_X0_hasShip ⟨Nat.le_of_ble_eq_true rfl, Nat.le_of_ble_eq_true rfl⟩) (va_recv hK hP (ci := 0) (q0 := 1) rfl cX_at1) ln_X_H_n hA hK hP hD hS rfl hl.1 rfl rfl (Nat.le_of_ble_eq_true rfl) dX4_boards_16 (fun H locs hP hD hS => ?_)
    refine lv_if_ne (tgt := 28) hx hb dX4_boards_19 (by decide) (fun c_5 => ?_) (fun c_5 => ?_)
    · replace hf := if_f c_5 hf
      refine lv_aload_n hx hb dX4_boards_28 rfl (lv_at hl 0 rfl) ?_
      refine va_get (D := D) (ci := 4) (v := .ref (A 1)) (C := RX4) (T := TX4) (N := 8) hx hb hts hw4 hown hK hP 0 cX_at0 rfl 0 (by decide) k10 (fun _ h9 => h9) rfl dX4_boards_29 ?_
      refine va_get (D := D) (ci := 0) (v := .ref (A 8)) (C := RX0) (T := TX0) (N := 12) hx hb hts hw0 hown hK hP 1 cX_at1 rfl 8 (by decide) k86 (fun _ h9 => h9) rfl dX4_boards_32 ?_
      refine lv_iload_n hx hb dX4_boards_35 rfl (lv_at hl 1 rfl) ?_
      obtain ⟨c_6, hf⟩ := gi_e hf
      refine va_iald hx hb hK hP 8 0 cX_at8 rfl c_6 dX4_boards_36 ?_
      refine lv_topi (fun v_7 ev_7 => ?_)
      replace hf := nm_at ev_7 hf
      refine lv_istore_n (lv' := [(3, .int v_7), (0, .ref (A 0)), (1, .int p1), (2, .int p2)]) hx hb dX4_boards_37 rfl hl (by decide) rfl (fun ls hl => ?_)
      refine lv_aload_n hx hb dX4_boards_38 rfl (lv_at hl 1 rfl) ?_
      refine va_get (D := D) (ci := 4) (v := .ref (A 1)) (C := RX4) (T := TX4) (N := 8) hx hb hts hw4 hown hK hP 0 cX_at0 rfl 0 (by decide) k10 (fun _ h9 => h9) rfl dX4_boards_39 ?_
      refine va_get (D := D) (ci := 0) (v := .ref (A 8)) (C := RX0) (T := TX0) (N := 12) hx hb hts hw0 hown hK hP 1 cX_at1 rfl 8 (by decide) k86 (fun _ h9 => h9) rfl dX4_boards_42 ?_
      refine lv_iload_n hx hb dX4_boards_45 rfl (lv_at hl 2 rfl) ?_
      refine lv_iload_n hx hb dX4_boards_46 rfl (lv_at hl 3 rfl) ?_
      obtain ⟨c_8, hf⟩ := gi_e hf
      refine va_iast hx hb hK hP hD hS 8 0 cX_at8 rfl c_8 dX4_boards_47 (fun H locs hP hD hS => ?_)
      obtain ⟨h_9, eh_9, hf⟩ := nq_e hf
      rw [cX_su8, ← eh_9] at hP hD
      refine lv_iload_n hx hb dX4_boards_48 rfl (lv_at hl 0 rfl) ?_
      exact hend (v_7, h_9, q) H locs _ _ hf hP hS dX4_boards_49
    · replace hf := if_t c_5 hf
      refine lv_aload_n hx hb dX4_boards_22 rfl (lv_at hl 0 rfl) ?_
      refine lv_iconst (v := -1) hx hb dX4_boards_23 (by decide) ?_
      obtain ⟨a_10, ha_10, hf⟩ := bd_e hf
      refine Ct.callV (As := [.int (-1 : Int32)]) (rest := []) (st1 := [.int a_10.1]) (c_X4_refused l D cI A n t k g w z q (-1 : Int32) a_10 ha_10) hx hb hml hown hts (cwV 1 hts gX4_boards_X4_refused rfl rfl rfl hd_X4_refused ⟨Nat.le_of_ble_eq_true rfl, Nat.le_of_ble_eq_true rfl⟩) (va_recv hK hP (ci := 4) (q0 := 0) rfl cX_at0) (Ln.id rfl) hA hK hP hD hS rfl hl.1 rfl rfl (Nat.le_of_ble_eq_true rfl) dX4_boards_24 (fun H locs hP hD hS => ?_)
      replace hP : va_P D vwCl (cX cI A n t k g w z a_10.2) H := hP
      replace hD : va_D AA (cX cI A n t k g w z a_10.2) := hD
      exact hend (a_10.1, n, a_10.2) H locs _ _ hf hP hS dX4_boards_27

def rm_X4_sins : Room := { frames := 1, cells := 0, slots := 0, locals := 22 }
theorem hd_X4_sins : yX4_sins.cls = RX4 ∧ yX4_sins.cls ≠ "java/lang/invoke/MethodHandle" ∧ yX4_sins.cls ≠ "java/lang/invoke/VarHandle" ∧ (parseMethodDescriptor yX4_sins.desc).map (fun d => d.parameters.length) = some 2 := by decide +kernel
set_option maxRecDepth 100000 in
set_option maxHeartbeats 4000000 in
theorem c_X4_sins (l : Launch) (D : va_G) (cI : ClassId) (A : Nat → Nat) (n : St) (t : St) (k : St) (g : St) (w : St) (z : St) (q : St) (p1 : Int32) (p2 : Int32) (r : Int32 × St × St) (hf : f_X4_sins n t k g w z q p1 p2 = some r) : Ct l yX4_sins wsX4_sins rm_X4_sins D cI (cX cI A n t k g w z q) (cX cI A r.2.1 t k g w z r.2.2) [.ref (A 0), .int p1, .int p2] (some (.int r.1)) := by
  unfold f_X4_sins at hf
  refine Ct.ofI (cc := cX4_sins) (maxL := 4) (by decide +kernel) rfl (Nat.le_of_ble_eq_true rfl) ?_
  intro p e s m args below meth c AA Q H locs ls hx hb hml hown hts hA hK hP hD hS hl hend0
  have hend : ∀ (r1 : Int32 × St × St) (H : Heap) (locs : List Loc) (pc : Nat) (ls : Array Slot), some r1 = some r → va_P D vwCl (cX cI A r1.2.1 t k g w z r1.2.2) H → va_S AA s.heap H locs → decode cX4_sins pc = .ok (.ireturn, 1) → W p l e rm_X4_sins s m args below meth c H locs 0 0 Q (F0 m pc ls [.int r1.1]) := by
    intro r1 H locs pc ls e1 hP hS hd; cases e1; exact hend0 H locs pc ls hP hS hd
  clear hend0
  have hw0 : ∀ w ∈ wsX00, w ∈ wsX4_sins := by decide +kernel
  have hw4 : ∀ w ∈ wsX40, w ∈ wsX4_sins := by decide +kernel
  have k10 := hts (.fieldLink RX4 10 "AnchorsForConfession" "now" "LAnchorsForConfession$Harbour;") (by decide +kernel)
  have k89 := hts (.fieldLink RX4 89 "AnchorsForConfession$Harbour" "sinsOf" "[I") (by decide +kernel)
  replace hl : lv_has ls 4 [(0, .ref (A 0)), (1, .int p1), (2, .int p2)] := hl
  refine lv_aload_n hx hb dX4_sins_0 rfl (lv_at hl 0 rfl) ?_
  refine va_get (D := D) (ci := 4) (v := .ref (A 1)) (C := RX4) (T := TX4) (N := 8) hx hb hts hw4 hown hK hP 0 cX_at0 rfl 0 (by decide) k10 (fun _ h9 => h9) rfl dX4_sins_1 ?_
  refine lv_iload_n hx hb dX4_sins_4 rfl (lv_at hl 1 rfl) ?_
  obtain ⟨a_1, ha_1, hf⟩ := bd_e hf
  refine Ct.callV (As := [.int p1]) (rest := []) (st1 := [.int a_1]) (c_X0_hasMan l D cI (fun j => A (1 + j)) n p1 a_1 ha_1) hx hb hml hown hts (cwV 1 hts gX4_sins_X0_hasMan rfl rfl rfl hd_X0_hasMan ⟨Nat.le_of_ble_eq_true rfl, Nat.le_of_ble_eq_true rfl⟩) (va_recv hK hP (ci := 0) (q0 := 1) rfl cX_at1) ln_X_H_n hA hK hP hD hS rfl hl.1 rfl rfl (Nat.le_of_ble_eq_true rfl) dX4_sins_5 (fun H locs hP hD hS => ?_)
  refine lv_if_ne (tgt := 17) hx hb dX4_sins_8 (by decide) (fun c_2 => ?_) (fun c_2 => ?_)
  · replace hf := if_f c_2 hf
    refine lv_iload_n hx hb dX4_sins_17 rfl (lv_at hl 2 rfl) ?_
    refine lv_if_ge (tgt := 28) hx hb dX4_sins_18 (by decide) (fun c_3 => ?_) (fun c_3 => ?_)
    · replace hf := if_t c_3 hf
      refine lv_iload_n hx hb dX4_sins_28 rfl (lv_at hl 2 rfl) ?_
      refine lv_bipush (v := 9) hx hb dX4_sins_29 (by decide +kernel) ?_
      refine lv_icmp_le (tgt := 41) hx hb dX4_sins_31 (by decide) (fun c_4 => ?_) (fun c_4 => ?_)
      · replace hf := if_t c_4 hf
        refine lv_aload_n hx hb dX4_sins_41 rfl (lv_at hl 0 rfl) ?_
        refine va_get (D := D) (ci := 4) (v := .ref (A 1)) (C := RX4) (T := TX4) (N := 8) hx hb hts hw4 hown hK hP 0 cX_at0 rfl 0 (by decide) k10 (fun _ h9 => h9) rfl dX4_sins_42 ?_
        refine va_get (D := D) (ci := 0) (v := .ref (A 7)) (C := RX0) (T := TX0) (N := 12) hx hb hts hw0 hown hK hP 1 cX_at1 rfl 7 (by decide) k89 (fun _ h9 => h9) rfl dX4_sins_45 ?_
        refine lv_iload_n hx hb dX4_sins_48 rfl (lv_at hl 1 rfl) ?_
        obtain ⟨c_5, hf⟩ := gi_e hf
        refine va_iald hx hb hK hP 7 0 cX_at7 rfl c_5 dX4_sins_49 ?_
        refine lv_topi (fun v_6 ev_6 => ?_)
        replace hf := nm_at ev_6 hf
        refine lv_istore_n (lv' := [(3, .int v_6), (0, .ref (A 0)), (1, .int p1), (2, .int p2)]) hx hb dX4_sins_50 rfl hl (by decide) rfl (fun ls hl => ?_)
        refine lv_aload_n hx hb dX4_sins_51 rfl (lv_at hl 1 rfl) ?_
        refine va_get (D := D) (ci := 4) (v := .ref (A 1)) (C := RX4) (T := TX4) (N := 8) hx hb hts hw4 hown hK hP 0 cX_at0 rfl 0 (by decide) k10 (fun _ h9 => h9) rfl dX4_sins_52 ?_
        refine va_get (D := D) (ci := 0) (v := .ref (A 7)) (C := RX0) (T := TX0) (N := 12) hx hb hts hw0 hown hK hP 1 cX_at1 rfl 7 (by decide) k89 (fun _ h9 => h9) rfl dX4_sins_55 ?_
        refine lv_iload_n hx hb dX4_sins_58 rfl (lv_at hl 2 rfl) ?_
        refine lv_iload_n hx hb dX4_sins_59 rfl (lv_at hl 3 rfl) ?_
        obtain ⟨c_7, hf⟩ := gi_e hf
        refine va_iast hx hb hK hP hD hS 7 0 cX_at7 rfl c_7 dX4_sins_60 (fun H locs hP hD hS => ?_)
        obtain ⟨h_8, eh_8, hf⟩ := nq_e hf
        rw [cX_su7, ← eh_8] at hP hD
        refine lv_iload_n hx hb dX4_sins_61 rfl (lv_at hl 0 rfl) ?_
        exact hend (v_6, h_8, q) H locs _ _ hf hP hS dX4_sins_62
      · replace hf := if_f c_4 hf
        refine lv_aload_n hx hb dX4_sins_34 rfl (lv_at hl 0 rfl) ?_
        refine lv_bipush (v := -6) hx hb dX4_sins_35 (by decide +kernel) ?_
        obtain ⟨a_9, ha_9, hf⟩ := bd_e hf
        refine Ct.callV (As := [.int (-6 : Int32)]) (rest := []) (st1 := [.int a_9.1]) (c_X4_refused l D cI A n t k g w z q (-6 : Int32) a_9 ha_9) hx hb hml hown hts (cwV 1 hts gX4_sins_X4_refused rfl rfl rfl hd_X4_refused ⟨Nat.le_of_ble_eq_true rfl, Nat.le_of_ble_eq_true rfl⟩) (va_recv hK hP (ci := 4) (q0 := 0) rfl cX_at0) (Ln.id rfl) hA hK hP hD hS rfl hl.1 rfl rfl (Nat.le_of_ble_eq_true rfl) dX4_sins_37 (fun H locs hP hD hS => ?_)
        replace hP : va_P D vwCl (cX cI A n t k g w z a_9.2) H := hP
        replace hD : va_D AA (cX cI A n t k g w z a_9.2) := hD
        exact hend (a_9.1, n, a_9.2) H locs _ _ hf hP hS dX4_sins_40
    · replace hf := if_f c_3 hf
      refine lv_aload_n hx hb dX4_sins_21 rfl (lv_at hl 0 rfl) ?_
      refine lv_bipush (v := -4) hx hb dX4_sins_22 (by decide +kernel) ?_
      obtain ⟨a_10, ha_10, hf⟩ := bd_e hf
      refine Ct.callV (As := [.int (-4 : Int32)]) (rest := []) (st1 := [.int a_10.1]) (c_X4_refused l D cI A n t k g w z q (-4 : Int32) a_10 ha_10) hx hb hml hown hts (cwV 1 hts gX4_sins_X4_refused rfl rfl rfl hd_X4_refused ⟨Nat.le_of_ble_eq_true rfl, Nat.le_of_ble_eq_true rfl⟩) (va_recv hK hP (ci := 4) (q0 := 0) rfl cX_at0) (Ln.id rfl) hA hK hP hD hS rfl hl.1 rfl rfl (Nat.le_of_ble_eq_true rfl) dX4_sins_24 (fun H locs hP hD hS => ?_)
      replace hP : va_P D vwCl (cX cI A n t k g w z a_10.2) H := hP
      replace hD : va_D AA (cX cI A n t k g w z a_10.2) := hD
      exact hend (a_10.1, n, a_10.2) H locs _ _ hf hP hS dX4_sins_27
  · replace hf := if_t c_2 hf
    refine lv_aload_n hx hb dX4_sins_11 rfl (lv_at hl 0 rfl) ?_
    refine lv_iconst (v := -1) hx hb dX4_sins_12 (by decide) ?_
    obtain ⟨a_11, ha_11, hf⟩ := bd_e hf
    refine Ct.callV (As := [.int (-1 : Int32)]) (rest := []) (st1 := [.int a_11.1]) (c_X4_refused l D cI A n t k g w z q (-1 : Int32) a_11 ha_11) hx hb hml hown hts (cwV 1 hts gX4_sins_X4_refused rfl rfl rfl hd_X4_refused ⟨Nat.le_of_ble_eq_true rfl, Nat.le_of_ble_eq_true rfl⟩) (va_recv hK hP (ci := 4) (q0 := 0) rfl cX_at0) (Ln.id rfl) hA hK hP hD hS rfl hl.1 rfl rfl (Nat.le_of_ble_eq_true rfl) dX4_sins_13 (fun H locs hP hD hS => ?_)
    replace hP : va_P D vwCl (cX cI A n t k g w z a_11.2) H := hP
    replace hD : va_D AA (cX cI A n t k g w z a_11.2) := hD
    exact hend (a_11.1, n, a_11.2) H locs _ _ hf hP hS dX4_sins_16

def rm_X4_loads : Room := { frames := 1, cells := 0, slots := 0, locals := 22 }
theorem hd_X4_loads : yX4_loads.cls = RX4 ∧ yX4_loads.cls ≠ "java/lang/invoke/MethodHandle" ∧ yX4_loads.cls ≠ "java/lang/invoke/VarHandle" ∧ (parseMethodDescriptor yX4_loads.desc).map (fun d => d.parameters.length) = some 2 := by decide +kernel
set_option maxRecDepth 100000 in
set_option maxHeartbeats 4000000 in
theorem c_X4_loads (l : Launch) (D : va_G) (cI : ClassId) (A : Nat → Nat) (n : St) (t : St) (k : St) (g : St) (w : St) (z : St) (q : St) (p1 : Int32) (p2 : Int32) (r : Int32 × St × St) (hf : f_X4_loads n t k g w z q p1 p2 = some r) : Ct l yX4_loads wsX4_loads rm_X4_loads D cI (cX cI A n t k g w z q) (cX cI A r.2.1 t k g w z r.2.2) [.ref (A 0), .int p1, .int p2] (some (.int r.1)) := by
  unfold f_X4_loads at hf
  refine Ct.ofI (cc := cX4_loads) (maxL := 4) (by decide +kernel) rfl (Nat.le_of_ble_eq_true rfl) ?_
  intro p e s m args below meth c AA Q H locs ls hx hb hml hown hts hA hK hP hD hS hl hend0
  have hend : ∀ (r1 : Int32 × St × St) (H : Heap) (locs : List Loc) (pc : Nat) (ls : Array Slot), some r1 = some r → va_P D vwCl (cX cI A r1.2.1 t k g w z r1.2.2) H → va_S AA s.heap H locs → decode cX4_loads pc = .ok (.ireturn, 1) → W p l e rm_X4_loads s m args below meth c H locs 0 0 Q (F0 m pc ls [.int r1.1]) := by
    intro r1 H locs pc ls e1 hP hS hd; cases e1; exact hend0 H locs pc ls hP hS hd
  clear hend0
  have hw0 : ∀ w ∈ wsX00, w ∈ wsX4_loads := by decide +kernel
  have hw4 : ∀ w ∈ wsX40, w ∈ wsX4_loads := by decide +kernel
  have k10 := hts (.fieldLink RX4 10 "AnchorsForConfession" "now" "LAnchorsForConfession$Harbour;") (by decide +kernel)
  have k92 := hts (.fieldLink RX4 92 "AnchorsForConfession$Harbour" "heavy" "[I") (by decide +kernel)
  replace hl : lv_has ls 4 [(0, .ref (A 0)), (1, .int p1), (2, .int p2)] := hl
  refine lv_aload_n hx hb dX4_loads_0 rfl (lv_at hl 0 rfl) ?_
  refine va_get (D := D) (ci := 4) (v := .ref (A 1)) (C := RX4) (T := TX4) (N := 8) hx hb hts hw4 hown hK hP 0 cX_at0 rfl 0 (by decide) k10 (fun _ h9 => h9) rfl dX4_loads_1 ?_
  refine lv_iload_n hx hb dX4_loads_4 rfl (lv_at hl 1 rfl) ?_
  obtain ⟨a_1, ha_1, hf⟩ := bd_e hf
  refine Ct.callV (As := [.int p1]) (rest := []) (st1 := [.int a_1]) (c_X0_hasShip l D cI (fun j => A (1 + j)) n p1 a_1 ha_1) hx hb hml hown hts (cwV 1 hts gX4_loads_X0_hasShip rfl rfl rfl hd_X0_hasShip ⟨Nat.le_of_ble_eq_true rfl, Nat.le_of_ble_eq_true rfl⟩) (va_recv hK hP (ci := 0) (q0 := 1) rfl cX_at1) ln_X_H_n hA hK hP hD hS rfl hl.1 rfl rfl (Nat.le_of_ble_eq_true rfl) dX4_loads_5 (fun H locs hP hD hS => ?_)
  refine lv_if_ne (tgt := 17) hx hb dX4_loads_8 (by decide) (fun c_2 => ?_) (fun c_2 => ?_)
  · replace hf := if_f c_2 hf
    refine lv_iload_n hx hb dX4_loads_17 rfl (lv_at hl 2 rfl) ?_
    refine lv_if_ge (tgt := 28) hx hb dX4_loads_18 (by decide) (fun c_3 => ?_) (fun c_3 => ?_)
    · replace hf := if_t c_3 hf
      refine lv_iload_n hx hb dX4_loads_28 rfl (lv_at hl 2 rfl) ?_
      refine lv_bipush (v := 9) hx hb dX4_loads_29 (by decide +kernel) ?_
      refine lv_icmp_le (tgt := 41) hx hb dX4_loads_31 (by decide) (fun c_4 => ?_) (fun c_4 => ?_)
      · replace hf := if_t c_4 hf
        refine lv_aload_n hx hb dX4_loads_41 rfl (lv_at hl 0 rfl) ?_
        refine va_get (D := D) (ci := 4) (v := .ref (A 1)) (C := RX4) (T := TX4) (N := 8) hx hb hts hw4 hown hK hP 0 cX_at0 rfl 0 (by decide) k10 (fun _ h9 => h9) rfl dX4_loads_42 ?_
        refine va_get (D := D) (ci := 0) (v := .ref (A 2)) (C := RX0) (T := TX0) (N := 12) hx hb hts hw0 hown hK hP 1 cX_at1 rfl 1 (by decide) k92 (fun _ h9 => h9) rfl dX4_loads_45 ?_
        refine lv_iload_n hx hb dX4_loads_48 rfl (lv_at hl 1 rfl) ?_
        obtain ⟨c_5, hf⟩ := gi_e hf
        refine va_iald hx hb hK hP 2 0 cX_at2 rfl c_5 dX4_loads_49 ?_
        refine lv_topi (fun v_6 ev_6 => ?_)
        replace hf := nm_at ev_6 hf
        refine lv_istore_n (lv' := [(3, .int v_6), (0, .ref (A 0)), (1, .int p1), (2, .int p2)]) hx hb dX4_loads_50 rfl hl (by decide) rfl (fun ls hl => ?_)
        refine lv_aload_n hx hb dX4_loads_51 rfl (lv_at hl 1 rfl) ?_
        refine va_get (D := D) (ci := 4) (v := .ref (A 1)) (C := RX4) (T := TX4) (N := 8) hx hb hts hw4 hown hK hP 0 cX_at0 rfl 0 (by decide) k10 (fun _ h9 => h9) rfl dX4_loads_52 ?_
        refine va_get (D := D) (ci := 0) (v := .ref (A 2)) (C := RX0) (T := TX0) (N := 12) hx hb hts hw0 hown hK hP 1 cX_at1 rfl 1 (by decide) k92 (fun _ h9 => h9) rfl dX4_loads_55 ?_
        refine lv_iload_n hx hb dX4_loads_58 rfl (lv_at hl 2 rfl) ?_
        refine lv_iload_n hx hb dX4_loads_59 rfl (lv_at hl 3 rfl) ?_
        obtain ⟨c_7, hf⟩ := gi_e hf
        refine va_iast hx hb hK hP hD hS 2 0 cX_at2 rfl c_7 dX4_loads_60 (fun H locs hP hD hS => ?_)
        obtain ⟨h_8, eh_8, hf⟩ := nq_e hf
        rw [cX_su2, ← eh_8] at hP hD
        refine lv_iload_n hx hb dX4_loads_61 rfl (lv_at hl 0 rfl) ?_
        exact hend (v_6, h_8, q) H locs _ _ hf hP hS dX4_loads_62
      · replace hf := if_f c_4 hf
        refine lv_aload_n hx hb dX4_loads_34 rfl (lv_at hl 0 rfl) ?_
        refine lv_bipush (v := -6) hx hb dX4_loads_35 (by decide +kernel) ?_
        obtain ⟨a_9, ha_9, hf⟩ := bd_e hf
        refine Ct.callV (As := [.int (-6 : Int32)]) (rest := []) (st1 := [.int a_9.1]) (c_X4_refused l D cI A n t k g w z q (-6 : Int32) a_9 ha_9) hx hb hml hown hts (cwV 1 hts gX4_loads_X4_refused rfl rfl rfl hd_X4_refused ⟨Nat.le_of_ble_eq_true rfl, Nat.le_of_ble_eq_true rfl⟩) (va_recv hK hP (ci := 4) (q0 := 0) rfl cX_at0) (Ln.id rfl) hA hK hP hD hS rfl hl.1 rfl rfl (Nat.le_of_ble_eq_true rfl) dX4_loads_37 (fun H locs hP hD hS => ?_)
        replace hP : va_P D vwCl (cX cI A n t k g w z a_9.2) H := hP
        replace hD : va_D AA (cX cI A n t k g w z a_9.2) := hD
        exact hend (a_9.1, n, a_9.2) H locs _ _ hf hP hS dX4_loads_40
    · replace hf := if_f c_3 hf
      refine lv_aload_n hx hb dX4_loads_21 rfl (lv_at hl 0 rfl) ?_
      refine lv_bipush (v := -4) hx hb dX4_loads_22 (by decide +kernel) ?_
      obtain ⟨a_10, ha_10, hf⟩ := bd_e hf
      refine Ct.callV (As := [.int (-4 : Int32)]) (rest := []) (st1 := [.int a_10.1]) (c_X4_refused l D cI A n t k g w z q (-4 : Int32) a_10 ha_10) hx hb hml hown hts (cwV 1 hts gX4_loads_X4_refused rfl rfl rfl hd_X4_refused ⟨Nat.le_of_ble_eq_true rfl, Nat.le_of_ble_eq_true rfl⟩) (va_recv hK hP (ci := 4) (q0 := 0) rfl cX_at0) (Ln.id rfl) hA hK hP hD hS rfl hl.1 rfl rfl (Nat.le_of_ble_eq_true rfl) dX4_loads_24 (fun H locs hP hD hS => ?_)
      replace hP : va_P D vwCl (cX cI A n t k g w z a_10.2) H := hP
      replace hD : va_D AA (cX cI A n t k g w z a_10.2) := hD
      exact hend (a_10.1, n, a_10.2) H locs _ _ hf hP hS dX4_loads_27
  · replace hf := if_t c_2 hf
    refine lv_aload_n hx hb dX4_loads_11 rfl (lv_at hl 0 rfl) ?_
    refine lv_iconst (v := -1) hx hb dX4_loads_12 (by decide) ?_
    obtain ⟨a_11, ha_11, hf⟩ := bd_e hf
    refine Ct.callV (As := [.int (-1 : Int32)]) (rest := []) (st1 := [.int a_11.1]) (c_X4_refused l D cI A n t k g w z q (-1 : Int32) a_11 ha_11) hx hb hml hown hts (cwV 1 hts gX4_loads_X4_refused rfl rfl rfl hd_X4_refused ⟨Nat.le_of_ble_eq_true rfl, Nat.le_of_ble_eq_true rfl⟩) (va_recv hK hP (ci := 4) (q0 := 0) rfl cX_at0) (Ln.id rfl) hA hK hP hD hS rfl hl.1 rfl rfl (Nat.le_of_ble_eq_true rfl) dX4_loads_13 (fun H locs hP hD hS => ?_)
    replace hP : va_P D vwCl (cX cI A n t k g w z a_11.2) H := hP
    replace hD : va_D AA (cX cI A n t k g w z a_11.2) := hD
    exact hend (a_11.1, n, a_11.2) H locs _ _ hf hP hS dX4_loads_16

def rm_X4_turn : Room := { frames := 1, cells := 0, slots := 0, locals := 22 }
theorem hd_X4_turn : yX4_turn.cls = RX4 ∧ yX4_turn.cls ≠ "java/lang/invoke/MethodHandle" ∧ yX4_turn.cls ≠ "java/lang/invoke/VarHandle" ∧ (parseMethodDescriptor yX4_turn.desc).map (fun d => d.parameters.length) = some 3 := by decide +kernel
set_option maxRecDepth 100000 in
set_option maxHeartbeats 4000000 in
theorem c_X4_turn (l : Launch) (D : va_G) (cI : ClassId) (A : Nat → Nat) (n : St) (t : St) (k : St) (g : St) (w : St) (z : St) (q : St) (p1 : Int32) (p2 : Int32) (p3 : Int32) (r : Int32 × St × St) (hf : f_X4_turn n t k g w z q p1 p2 p3 = some r) : Ct l yX4_turn wsX4_turn rm_X4_turn D cI (cX cI A n t k g w z q) (cX cI A r.2.1 t k g w z r.2.2) [.ref (A 0), .int p1, .int p2, .int p3] (some (.int r.1)) := by
  unfold f_X4_turn at hf
  refine Ct.ofI (cc := cX4_turn) (maxL := 5) (by decide +kernel) rfl (Nat.le_of_ble_eq_true rfl) ?_
  intro p e s m args below meth c AA Q H locs ls hx hb hml hown hts hA hK hP hD hS hl hend0
  have hend : ∀ (r1 : Int32 × St × St) (H : Heap) (locs : List Loc) (pc : Nat) (ls : Array Slot), some r1 = some r → va_P D vwCl (cX cI A r1.2.1 t k g w z r1.2.2) H → va_S AA s.heap H locs → decode cX4_turn pc = .ok (.ireturn, 1) → W p l e rm_X4_turn s m args below meth c H locs 0 0 Q (F0 m pc ls [.int r1.1]) := by
    intro r1 H locs pc ls e1 hP hS hd; cases e1; exact hend0 H locs pc ls hP hS hd
  clear hend0
  have hw0 : ∀ w ∈ wsX00, w ∈ wsX4_turn := by decide +kernel
  have hw4 : ∀ w ∈ wsX40, w ∈ wsX4_turn := by decide +kernel
  have k10 := hts (.fieldLink RX4 10 "AnchorsForConfession" "now" "LAnchorsForConfession$Harbour;") (by decide +kernel)
  have k95 := hts (.fieldLink RX4 95 "AnchorsForConfession$Harbour" "kind" "[I") (by decide +kernel)
  have k98 := hts (.fieldLink RX4 98 "AnchorsForConfession$Harbour" "figure" "[I") (by decide +kernel)
  replace hl : lv_has ls 5 [(0, .ref (A 0)), (1, .int p1), (2, .int p2), (3, .int p3)] := hl
  refine lv_aload_n hx hb dX4_turn_0 rfl (lv_at hl 0 rfl) ?_
  refine va_get (D := D) (ci := 4) (v := .ref (A 1)) (C := RX4) (T := TX4) (N := 8) hx hb hts hw4 hown hK hP 0 cX_at0 rfl 0 (by decide) k10 (fun _ h9 => h9) rfl dX4_turn_1 ?_
  refine lv_iload_n hx hb dX4_turn_4 rfl (lv_at hl 1 rfl) ?_
  obtain ⟨a_1, ha_1, hf⟩ := bd_e hf
  refine Ct.callV (As := [.int p1]) (rest := []) (st1 := [.int a_1]) (c_X0_hasMan l D cI (fun j => A (1 + j)) n p1 a_1 ha_1) hx hb hml hown hts (cwV 1 hts gX4_turn_X0_hasMan rfl rfl rfl hd_X0_hasMan ⟨Nat.le_of_ble_eq_true rfl, Nat.le_of_ble_eq_true rfl⟩) (va_recv hK hP (ci := 0) (q0 := 1) rfl cX_at1) ln_X_H_n hA hK hP hD hS rfl hl.1 rfl rfl (Nat.le_of_ble_eq_true rfl) dX4_turn_5 (fun H locs hP hD hS => ?_)
  refine lv_if_ne (tgt := 17) hx hb dX4_turn_8 (by decide) (fun c_2 => ?_) (fun c_2 => ?_)
  · replace hf := if_f c_2 hf
    refine lv_iload_n hx hb dX4_turn_17 rfl (lv_at hl 2 rfl) ?_
    refine lv_if_lt (tgt := 27) hx hb dX4_turn_18 (by decide) (fun c_3 => ?_) (fun c_3 => ?_)
    · replace hf := if_t c_3 hf
      refine lv_aload_n hx hb dX4_turn_27 rfl (lv_at hl 0 rfl) ?_
      refine lv_bipush (v := -2) hx hb dX4_turn_28 (by decide +kernel) ?_
      obtain ⟨a_4, ha_4, hf⟩ := bd_e hf
      refine Ct.callV (As := [.int (-2 : Int32)]) (rest := []) (st1 := [.int a_4.1]) (c_X4_refused l D cI A n t k g w z q (-2 : Int32) a_4 ha_4) hx hb hml hown hts (cwV 1 hts gX4_turn_X4_refused rfl rfl rfl hd_X4_refused ⟨Nat.le_of_ble_eq_true rfl, Nat.le_of_ble_eq_true rfl⟩) (va_recv hK hP (ci := 4) (q0 := 0) rfl cX_at0) (Ln.id rfl) hA hK hP hD hS rfl hl.1 rfl rfl (Nat.le_of_ble_eq_true rfl) dX4_turn_30 (fun H locs hP hD hS => ?_)
      replace hP : va_P D vwCl (cX cI A n t k g w z a_4.2) H := hP
      replace hD : va_D AA (cX cI A n t k g w z a_4.2) := hD
      exact hend (a_4.1, n, a_4.2) H locs _ _ hf hP hS dX4_turn_33
    · replace hf := if_f c_3 hf
      refine lv_iload_n hx hb dX4_turn_21 rfl (lv_at hl 2 rfl) ?_
      refine lv_bipush (v := 6) hx hb dX4_turn_22 (by decide +kernel) ?_
      refine lv_icmp_lt (tgt := 34) hx hb dX4_turn_24 (by decide) (fun c_5 => ?_) (fun c_5 => ?_)
      · replace hf := if_t c_5 hf
        refine lv_iload_n hx hb dX4_turn_34 rfl (lv_at hl 3 rfl) ?_
        refine lv_if_ge (tgt := 45) hx hb dX4_turn_35 (by decide) (fun c_6 => ?_) (fun c_6 => ?_)
        · replace hf := if_t c_6 hf
          refine lv_iload_n hx hb dX4_turn_45 rfl (lv_at hl 3 rfl) ?_
          refine lv_bipush (v := 9) hx hb dX4_turn_46 (by decide +kernel) ?_
          refine lv_icmp_le (tgt := 58) hx hb dX4_turn_48 (by decide) (fun c_7 => ?_) (fun c_7 => ?_)
          · replace hf := if_t c_7 hf
            refine lv_bipush (v := 10) hx hb dX4_turn_58 (by decide +kernel) ?_
            refine lv_aload_n hx hb dX4_turn_60 rfl (lv_at hl 0 rfl) ?_
            refine va_get (D := D) (ci := 4) (v := .ref (A 1)) (C := RX4) (T := TX4) (N := 8) hx hb hts hw4 hown hK hP 0 cX_at0 rfl 0 (by decide) k10 (fun _ h9 => h9) rfl dX4_turn_61 ?_
            refine va_get (D := D) (ci := 0) (v := .ref (A 5)) (C := RX0) (T := TX0) (N := 12) hx hb hts hw0 hown hK hP 1 cX_at1 rfl 5 (by decide) k95 (fun _ h9 => h9) rfl dX4_turn_64 ?_
            refine lv_iload_n hx hb dX4_turn_67 rfl (lv_at hl 1 rfl) ?_
            obtain ⟨c_8, hf⟩ := gi_e hf
            refine va_iald hx hb hK hP 5 0 cX_at5 rfl c_8 dX4_turn_68 ?_
            refine lv_imul hx hb dX4_turn_69 ?_
            refine lv_aload_n hx hb dX4_turn_70 rfl (lv_at hl 0 rfl) ?_
            refine va_get (D := D) (ci := 4) (v := .ref (A 1)) (C := RX4) (T := TX4) (N := 8) hx hb hts hw4 hown hK hP 0 cX_at0 rfl 0 (by decide) k10 (fun _ h9 => h9) rfl dX4_turn_71 ?_
            refine va_get (D := D) (ci := 0) (v := .ref (A 6)) (C := RX0) (T := TX0) (N := 12) hx hb hts hw0 hown hK hP 1 cX_at1 rfl 6 (by decide) k98 (fun _ h9 => h9) rfl dX4_turn_74 ?_
            refine lv_iload_n hx hb dX4_turn_77 rfl (lv_at hl 1 rfl) ?_
            obtain ⟨c_9, hf⟩ := gi_e hf
            refine va_iald hx hb hK hP 6 0 cX_at6 rfl c_9 dX4_turn_78 ?_
            refine lv_iadd hx hb dX4_turn_79 ?_
            refine lv_topi (fun v_10 ev_10 => ?_)
            replace hf := nm_at ev_10 hf
            refine lv_istore (lv' := [(4, .int v_10), (0, .ref (A 0)), (1, .int p1), (2, .int p2), (3, .int p3)]) hx hb dX4_turn_80 hl (by decide) rfl (fun ls hl => ?_)
            refine lv_aload_n hx hb dX4_turn_82 rfl (lv_at hl 1 rfl) ?_
            refine va_get (D := D) (ci := 4) (v := .ref (A 1)) (C := RX4) (T := TX4) (N := 8) hx hb hts hw4 hown hK hP 0 cX_at0 rfl 0 (by decide) k10 (fun _ h9 => h9) rfl dX4_turn_83 ?_
            refine va_get (D := D) (ci := 0) (v := .ref (A 5)) (C := RX0) (T := TX0) (N := 12) hx hb hts hw0 hown hK hP 1 cX_at1 rfl 5 (by decide) k95 (fun _ h9 => h9) rfl dX4_turn_86 ?_
            refine lv_iload_n hx hb dX4_turn_89 rfl (lv_at hl 2 rfl) ?_
            refine lv_iload_n hx hb dX4_turn_90 rfl (lv_at hl 3 rfl) ?_
            obtain ⟨c_11, hf⟩ := gi_e hf
            refine va_iast hx hb hK hP hD hS 5 0 cX_at5 rfl c_11 dX4_turn_91 (fun H locs hP hD hS => ?_)
            obtain ⟨h_12, eh_12, hf⟩ := nq_e hf
            rw [cX_su5, ← eh_12] at hP hD
            refine lv_aload_n hx hb dX4_turn_92 rfl (lv_at hl 1 rfl) ?_
            refine va_get (D := D) (ci := 4) (v := .ref (A 1)) (C := RX4) (T := TX4) (N := 8) hx hb hts hw4 hown hK hP 0 cX_at0 rfl 0 (by decide) k10 (fun _ h9 => h9) rfl dX4_turn_93 ?_
            refine va_get (D := D) (ci := 0) (v := .ref (A 6)) (C := RX0) (T := TX0) (N := 12) hx hb hts hw0 hown hK hP 1 cX_at1 rfl 6 (by decide) k98 (fun _ h9 => h9) rfl dX4_turn_96 ?_
            refine lv_iload_n hx hb dX4_turn_99 rfl (lv_at hl 2 rfl) ?_
            refine lv_iload_n hx hb dX4_turn_100 rfl (lv_at hl 4 rfl) ?_
            obtain ⟨c_13, hf⟩ := gi_e hf
            refine va_iast hx hb hK hP hD hS 6 0 cX_at6 rfl c_13 dX4_turn_101 (fun H locs hP hD hS => ?_)
            obtain ⟨h_14, eh_14, hf⟩ := nq_e hf
            rw [cX_su6, ← eh_14] at hP hD
            refine lv_iload hx hb dX4_turn_102 (lv_at hl 0 rfl) ?_
            exact hend (v_10, h_14, q) H locs _ _ hf hP hS dX4_turn_104
          · replace hf := if_f c_7 hf
            refine lv_aload_n hx hb dX4_turn_51 rfl (lv_at hl 0 rfl) ?_
            refine lv_bipush (v := -6) hx hb dX4_turn_52 (by decide +kernel) ?_
            obtain ⟨a_15, ha_15, hf⟩ := bd_e hf
            refine Ct.callV (As := [.int (-6 : Int32)]) (rest := []) (st1 := [.int a_15.1]) (c_X4_refused l D cI A n t k g w z q (-6 : Int32) a_15 ha_15) hx hb hml hown hts (cwV 1 hts gX4_turn_X4_refused rfl rfl rfl hd_X4_refused ⟨Nat.le_of_ble_eq_true rfl, Nat.le_of_ble_eq_true rfl⟩) (va_recv hK hP (ci := 4) (q0 := 0) rfl cX_at0) (Ln.id rfl) hA hK hP hD hS rfl hl.1 rfl rfl (Nat.le_of_ble_eq_true rfl) dX4_turn_54 (fun H locs hP hD hS => ?_)
            replace hP : va_P D vwCl (cX cI A n t k g w z a_15.2) H := hP
            replace hD : va_D AA (cX cI A n t k g w z a_15.2) := hD
            exact hend (a_15.1, n, a_15.2) H locs _ _ hf hP hS dX4_turn_57
        · replace hf := if_f c_6 hf
          refine lv_aload_n hx hb dX4_turn_38 rfl (lv_at hl 0 rfl) ?_
          refine lv_bipush (v := -4) hx hb dX4_turn_39 (by decide +kernel) ?_
          obtain ⟨a_16, ha_16, hf⟩ := bd_e hf
          refine Ct.callV (As := [.int (-4 : Int32)]) (rest := []) (st1 := [.int a_16.1]) (c_X4_refused l D cI A n t k g w z q (-4 : Int32) a_16 ha_16) hx hb hml hown hts (cwV 1 hts gX4_turn_X4_refused rfl rfl rfl hd_X4_refused ⟨Nat.le_of_ble_eq_true rfl, Nat.le_of_ble_eq_true rfl⟩) (va_recv hK hP (ci := 4) (q0 := 0) rfl cX_at0) (Ln.id rfl) hA hK hP hD hS rfl hl.1 rfl rfl (Nat.le_of_ble_eq_true rfl) dX4_turn_41 (fun H locs hP hD hS => ?_)
          replace hP : va_P D vwCl (cX cI A n t k g w z a_16.2) H := hP
          replace hD : va_D AA (cX cI A n t k g w z a_16.2) := hD
          exact hend (a_16.1, n, a_16.2) H locs _ _ hf hP hS dX4_turn_44
      · replace hf := if_f c_5 hf
        refine lv_aload_n hx hb dX4_turn_27 rfl (lv_at hl 0 rfl) ?_
        refine lv_bipush (v := -2) hx hb dX4_turn_28 (by decide +kernel) ?_
        obtain ⟨a_17, ha_17, hf⟩ := bd_e hf
        refine Ct.callV (As := [.int (-2 : Int32)]) (rest := []) (st1 := [.int a_17.1]) (c_X4_refused l D cI A n t k g w z q (-2 : Int32) a_17 ha_17) hx hb hml hown hts (cwV 1 hts gX4_turn_X4_refused rfl rfl rfl hd_X4_refused ⟨Nat.le_of_ble_eq_true rfl, Nat.le_of_ble_eq_true rfl⟩) (va_recv hK hP (ci := 4) (q0 := 0) rfl cX_at0) (Ln.id rfl) hA hK hP hD hS rfl hl.1 rfl rfl (Nat.le_of_ble_eq_true rfl) dX4_turn_30 (fun H locs hP hD hS => ?_)
        replace hP : va_P D vwCl (cX cI A n t k g w z a_17.2) H := hP
        replace hD : va_D AA (cX cI A n t k g w z a_17.2) := hD
        exact hend (a_17.1, n, a_17.2) H locs _ _ hf hP hS dX4_turn_33
  · replace hf := if_t c_2 hf
    refine lv_aload_n hx hb dX4_turn_11 rfl (lv_at hl 0 rfl) ?_
    refine lv_iconst (v := -1) hx hb dX4_turn_12 (by decide) ?_
    obtain ⟨a_18, ha_18, hf⟩ := bd_e hf
    refine Ct.callV (As := [.int (-1 : Int32)]) (rest := []) (st1 := [.int a_18.1]) (c_X4_refused l D cI A n t k g w z q (-1 : Int32) a_18 ha_18) hx hb hml hown hts (cwV 1 hts gX4_turn_X4_refused rfl rfl rfl hd_X4_refused ⟨Nat.le_of_ble_eq_true rfl, Nat.le_of_ble_eq_true rfl⟩) (va_recv hK hP (ci := 4) (q0 := 0) rfl cX_at0) (Ln.id rfl) hA hK hP hD hS rfl hl.1 rfl rfl (Nat.le_of_ble_eq_true rfl) dX4_turn_13 (fun H locs hP hD hS => ?_)
    replace hP : va_P D vwCl (cX cI A n t k g w z a_18.2) H := hP
    replace hD : va_D AA (cX cI A n t k g w z a_18.2) := hD
    exact hend (a_18.1, n, a_18.2) H locs _ _ hf hP hS dX4_turn_16

def rm_X4_tides : Room := { frames := 3, cells := 0, slots := 0, locals := 64 }
theorem hd_X4_tides : yX4_tides.cls = RX4 ∧ yX4_tides.cls ≠ "java/lang/invoke/MethodHandle" ∧ yX4_tides.cls ≠ "java/lang/invoke/VarHandle" ∧ (parseMethodDescriptor yX4_tides.desc).map (fun d => d.parameters.length) = some 1 := by decide +kernel
set_option maxRecDepth 100000 in
set_option maxHeartbeats 4000000 in
theorem c_X4_tides (l : Launch) (D : va_G) (cI : ClassId) (A : Nat → Nat) (n : St) (t : St) (k : St) (g : St) (w : St) (z : St) (q : St) (p1 : Int32) (r : Int32 × St × St) (hf : f_X4_tides n t k g w z q p1 = some r) : Ct l yX4_tides wsX4_tides rm_X4_tides D cI (cX cI A n t k g w z q) (cX cI A r.2.1 t k g w z r.2.2) [.ref (A 0), .int p1] (some (.int r.1)) := by
  unfold f_X4_tides at hf
  refine Ct.ofI (cc := cX4_tides) (maxL := 2) (by decide +kernel) rfl (Nat.le_of_ble_eq_true rfl) ?_
  intro p e s m args below meth c AA Q H locs ls hx hb hml hown hts hA hK hP hD hS hl hend0
  have hend : ∀ (r1 : Int32 × St × St) (H : Heap) (locs : List Loc) (pc : Nat) (ls : Array Slot), some r1 = some r → va_P D vwCl (cX cI A r1.2.1 t k g w z r1.2.2) H → va_S AA s.heap H locs → decode cX4_tides pc = .ok (.ireturn, 1) → W p l e rm_X4_tides s m args below meth c H locs 0 0 Q (F0 m pc ls [.int r1.1]) := by
    intro r1 H locs pc ls e1 hP hS hd; cases e1; exact hend0 H locs pc ls hP hS hd
  clear hend0
  have hw4 : ∀ w ∈ wsX40, w ∈ wsX4_tides := by decide +kernel
  have k10 := hts (.fieldLink RX4 10 "AnchorsForConfession" "now" "LAnchorsForConfession$Harbour;") (by decide +kernel)
  replace hl : lv_has ls 2 [(0, .ref (A 0)), (1, .int p1)] := hl
  refine lv_iload_n hx hb dX4_tides_0 rfl (lv_at hl 1 rfl) ?_
  refine lv_iconst (v := 1) hx hb dX4_tides_1 (by decide) ?_
  refine lv_icmp_ge (tgt := 12) hx hb dX4_tides_2 (by decide) (fun c_1 => ?_) (fun c_1 => ?_)
  · replace hf := if_t c_1 hf
    refine lv_iload_n hx hb dX4_tides_12 rfl (lv_at hl 1 rfl) ?_
    refine lv_bipush (v := 60) hx hb dX4_tides_13 (by decide +kernel) ?_
    refine lv_icmp_gt (tgt := 29) hx hb dX4_tides_15 (by decide) (fun c_2 => ?_) (fun c_2 => ?_)
    · replace hf := if_t c_2 hf
      refine lv_aload_n hx hb dX4_tides_29 rfl (lv_at hl 0 rfl) ?_
      refine lv_bipush (v := -6) hx hb dX4_tides_30 (by decide +kernel) ?_
      obtain ⟨a_3, ha_3, hf⟩ := bd_e hf
      refine Ct.callV (As := [.int (-6 : Int32)]) (rest := []) (st1 := [.int a_3.1]) (c_X4_refused l D cI A n t k g w z q (-6 : Int32) a_3 ha_3) hx hb hml hown hts (cwV 1 hts gX4_tides_X4_refused rfl rfl rfl hd_X4_refused ⟨Nat.le_of_ble_eq_true rfl, Nat.le_of_ble_eq_true rfl⟩) (va_recv hK hP (ci := 4) (q0 := 0) rfl cX_at0) (Ln.id rfl) hA hK hP hD hS rfl hl.1 rfl rfl (Nat.le_of_ble_eq_true rfl) dX4_tides_32 (fun H locs hP hD hS => ?_)
      replace hP : va_P D vwCl (cX cI A n t k g w z a_3.2) H := hP
      replace hD : va_D AA (cX cI A n t k g w z a_3.2) := hD
      exact hend (a_3.1, n, a_3.2) H locs _ _ hf hP hS dX4_tides_35
    · replace hf := if_f c_2 hf
      refine lv_aload_n hx hb dX4_tides_18 rfl (lv_at hl 0 rfl) ?_
      refine va_get (D := D) (ci := 4) (v := .ref (A 1)) (C := RX4) (T := TX4) (N := 8) hx hb hts hw4 hown hK hP 0 cX_at0 rfl 0 (by decide) k10 (fun _ h9 => h9) rfl dX4_tides_19 ?_
      refine lv_iload_n hx hb dX4_tides_22 rfl (lv_at hl 1 rfl) ?_
      obtain ⟨a_4, ha_4, hf⟩ := bd_e hf
      refine Ct.callV (As := [.int p1]) (rest := []) (st1 := [.int a_4]) (c_X0_hasTidesLeft l D cI (fun j => A (1 + j)) n p1 a_4 ha_4) hx hb hml hown hts (cwV 1 hts gX4_tides_X0_hasTidesLeft rfl rfl rfl hd_X0_hasTidesLeft ⟨Nat.le_of_ble_eq_true rfl, Nat.le_of_ble_eq_true rfl⟩) (va_recv hK hP (ci := 0) (q0 := 1) rfl cX_at1) ln_X_H_n hA hK hP hD hS rfl hl.1 rfl rfl (Nat.le_of_ble_eq_true rfl) dX4_tides_23 (fun H locs hP hD hS => ?_)
      refine lv_if_ne (tgt := 36) hx hb dX4_tides_26 (by decide) (fun c_5 => ?_) (fun c_5 => ?_)
      · replace hf := if_f c_5 hf
        refine lv_aload_n hx hb dX4_tides_36 rfl (lv_at hl 0 rfl) ?_
        refine va_get (D := D) (ci := 4) (v := .ref (A 1)) (C := RX4) (T := TX4) (N := 8) hx hb hts hw4 hown hK hP 0 cX_at0 rfl 0 (by decide) k10 (fun _ h9 => h9) rfl dX4_tides_37 ?_
        refine lv_iload_n hx hb dX4_tides_40 rfl (lv_at hl 1 rfl) ?_
        obtain ⟨a_6, ha_6, hf⟩ := bd_e hf
        refine Ct.callV (As := [.int p1]) (rest := []) (st1 := []) (c_X0_passTides l D cI (fun j => A (1 + j)) n p1 a_6 ha_6) hx hb hml hown hts (cwV 1 hts gX4_tides_X0_passTides rfl rfl rfl hd_X0_passTides ⟨Nat.le_of_ble_eq_true rfl, Nat.le_of_ble_eq_true rfl⟩) (va_recv hK hP (ci := 0) (q0 := 1) rfl cX_at1) ln_X_H_n hA hK hP hD hS rfl hl.1 rfl rfl (Nat.le_of_ble_eq_true rfl) dX4_tides_41 (fun H locs hP hD hS => ?_)
        replace hP : va_P D vwCl (cX cI A a_6 t k g w z q) H := hP
        replace hD : va_D AA (cX cI A a_6 t k g w z q) := hD
        refine lv_aload_n hx hb dX4_tides_44 rfl (lv_at hl 0 rfl) ?_
        refine va_get (D := D) (ci := 4) (v := .ref (A 1)) (C := RX4) (T := TX4) (N := 8) hx hb hts hw4 hown hK hP 0 cX_at0 rfl 0 (by decide) k10 (fun _ h9 => h9) rfl dX4_tides_45 ?_
        obtain ⟨a_7, ha_7, hf⟩ := bd_e hf
        refine Ct.callV (As := []) (rest := []) (st1 := [.int a_7]) (c_X0_outBits l D cI (fun j => A (1 + j)) a_6 a_7 ha_7) hx hb hml hown hts (cwV 0 hts gX4_tides_X0_outBits rfl rfl rfl hd_X0_outBits ⟨Nat.le_of_ble_eq_true rfl, Nat.le_of_ble_eq_true rfl⟩) (va_recv hK hP (ci := 0) (q0 := 1) rfl cX_at1) ln_X_H_n hA hK hP hD hS rfl hl.1 rfl rfl (Nat.le_of_ble_eq_true rfl) dX4_tides_48 (fun H locs hP hD hS => ?_)
        exact hend (a_7, a_6, q) H locs _ _ hf hP hS dX4_tides_51
      · replace hf := if_t c_5 hf
        refine lv_aload_n hx hb dX4_tides_29 rfl (lv_at hl 0 rfl) ?_
        refine lv_bipush (v := -6) hx hb dX4_tides_30 (by decide +kernel) ?_
        obtain ⟨a_8, ha_8, hf⟩ := bd_e hf
        refine Ct.callV (As := [.int (-6 : Int32)]) (rest := []) (st1 := [.int a_8.1]) (c_X4_refused l D cI A n t k g w z q (-6 : Int32) a_8 ha_8) hx hb hml hown hts (cwV 1 hts gX4_tides_X4_refused rfl rfl rfl hd_X4_refused ⟨Nat.le_of_ble_eq_true rfl, Nat.le_of_ble_eq_true rfl⟩) (va_recv hK hP (ci := 4) (q0 := 0) rfl cX_at0) (Ln.id rfl) hA hK hP hD hS rfl hl.1 rfl rfl (Nat.le_of_ble_eq_true rfl) dX4_tides_32 (fun H locs hP hD hS => ?_)
        replace hP : va_P D vwCl (cX cI A n t k g w z a_8.2) H := hP
        replace hD : va_D AA (cX cI A n t k g w z a_8.2) := hD
        exact hend (a_8.1, n, a_8.2) H locs _ _ hf hP hS dX4_tides_35
  · replace hf := if_f c_1 hf
    refine lv_aload_n hx hb dX4_tides_5 rfl (lv_at hl 0 rfl) ?_
    refine lv_bipush (v := -4) hx hb dX4_tides_6 (by decide +kernel) ?_
    obtain ⟨a_9, ha_9, hf⟩ := bd_e hf
    refine Ct.callV (As := [.int (-4 : Int32)]) (rest := []) (st1 := [.int a_9.1]) (c_X4_refused l D cI A n t k g w z q (-4 : Int32) a_9 ha_9) hx hb hml hown hts (cwV 1 hts gX4_tides_X4_refused rfl rfl rfl hd_X4_refused ⟨Nat.le_of_ble_eq_true rfl, Nat.le_of_ble_eq_true rfl⟩) (va_recv hK hP (ci := 4) (q0 := 0) rfl cX_at0) (Ln.id rfl) hA hK hP hD hS rfl hl.1 rfl rfl (Nat.le_of_ble_eq_true rfl) dX4_tides_8 (fun H locs hP hD hS => ?_)
    replace hP : va_P D vwCl (cX cI A n t k g w z a_9.2) H := hP
    replace hD : va_D AA (cX cI A n t k g w z a_9.2) := hD
    exact hend (a_9.1, n, a_9.2) H locs _ _ hf hP hS dX4_tides_11

def rm_X4_ship : Room := { frames := 3, cells := 0, slots := 0, locals := 67 }
theorem hd_X4_ship : yX4_ship.cls = RX4 ∧ yX4_ship.cls ≠ "java/lang/invoke/MethodHandle" ∧ yX4_ship.cls ≠ "java/lang/invoke/VarHandle" ∧ (parseMethodDescriptor yX4_ship.desc).map (fun d => d.parameters.length) = some 2 := by decide +kernel
set_option maxRecDepth 100000 in
set_option maxHeartbeats 4000000 in
theorem c_X4_ship (l : Launch) (D : va_G) (cI : ClassId) (A : Nat → Nat) (n : St) (t : St) (k : St) (g : St) (w : St) (z : St) (q : St) (p1 : Int32) (p2 : Int32) (r : Int32 × St) (hf : f_X4_ship n t k g w z q p1 p2 = some r) : Ct l yX4_ship wsX4_ship rm_X4_ship D cI (cX cI A n t k g w z q) (cX cI A n t k g w z r.2) [.ref (A 0), .int p1, .int p2] (some (.int r.1)) := by
  unfold f_X4_ship at hf
  refine Ct.ofI (cc := cX4_ship) (maxL := 3) (by decide +kernel) rfl (Nat.le_of_ble_eq_true rfl) ?_
  intro p e s m args below meth c AA Q H locs ls hx hb hml hown hts hA hK hP hD hS hl hend0
  have hend : ∀ (r1 : Int32 × St) (H : Heap) (locs : List Loc) (pc : Nat) (ls : Array Slot), some r1 = some r → va_P D vwCl (cX cI A n t k g w z r1.2) H → va_S AA s.heap H locs → decode cX4_ship pc = .ok (.ireturn, 1) → W p l e rm_X4_ship s m args below meth c H locs 0 0 Q (F0 m pc ls [.int r1.1]) := by
    intro r1 H locs pc ls e1 hP hS hd; cases e1; exact hend0 H locs pc ls hP hS hd
  clear hend0
  have hw0 : ∀ w ∈ wsX00, w ∈ wsX4_ship := by decide +kernel
  have hw4 : ∀ w ∈ wsX40, w ∈ wsX4_ship := by decide +kernel
  have k10 := hts (.fieldLink RX4 10 "AnchorsForConfession" "now" "LAnchorsForConfession$Harbour;") (by decide +kernel)
  have k92 := hts (.fieldLink RX4 92 "AnchorsForConfession$Harbour" "heavy" "[I") (by decide +kernel)
  have k112 := hts (.fieldLink RX4 112 "AnchorsForConfession$Harbour" "loose" "[I") (by decide +kernel)
  have k115 := hts (.fieldLink RX4 115 "AnchorsForConfession$Harbour" "outFor" "[I") (by decide +kernel)
  replace hl : lv_has ls 3 [(0, .ref (A 0)), (1, .int p1), (2, .int p2)] := hl
  refine lv_aload_n hx hb dX4_ship_0 rfl (lv_at hl 0 rfl) ?_
  refine va_get (D := D) (ci := 4) (v := .ref (A 1)) (C := RX4) (T := TX4) (N := 8) hx hb hts hw4 hown hK hP 0 cX_at0 rfl 0 (by decide) k10 (fun _ h9 => h9) rfl dX4_ship_1 ?_
  refine lv_iload_n hx hb dX4_ship_4 rfl (lv_at hl 1 rfl) ?_
  obtain ⟨a_1, ha_1, hf⟩ := bd_e hf
  refine Ct.callV (As := [.int p1]) (rest := []) (st1 := [.int a_1]) (c_X0_hasShip l D cI (fun j => A (1 + j)) n p1 a_1 ha_1) hx hb hml hown hts (cwV 1 hts gX4_ship_X0_hasShip rfl rfl rfl hd_X0_hasShip ⟨Nat.le_of_ble_eq_true rfl, Nat.le_of_ble_eq_true rfl⟩) (va_recv hK hP (ci := 0) (q0 := 1) rfl cX_at1) ln_X_H_n hA hK hP hD hS rfl hl.1 rfl rfl (Nat.le_of_ble_eq_true rfl) dX4_ship_5 (fun H locs hP hD hS => ?_)
  refine lv_if_ne (tgt := 17) hx hb dX4_ship_8 (by decide) (fun c_2 => ?_) (fun c_2 => ?_)
  · replace hf := if_f c_2 hf
    refine lv_iload_n hx hb dX4_ship_17 rfl (lv_at hl 2 rfl) ?_
    by_cases c_3 : p2 = 0
    · replace hf := if_t c_3 hf
      refine lv_tableIn (off := 42) (tgt := 60) hx hb dX4_ship_18 (by rw [c_3]; decide +kernel) (by rw [c_3]; decide +kernel) (by rw [c_3]; decide +kernel) (by decide) ?_
      refine lv_aload_n hx hb dX4_ship_60 rfl (lv_at hl 0 rfl) ?_
      refine va_get (D := D) (ci := 4) (v := .ref (A 1)) (C := RX4) (T := TX4) (N := 8) hx hb hts hw4 hown hK hP 0 cX_at0 rfl 0 (by decide) k10 (fun _ h9 => h9) rfl dX4_ship_61 ?_
      refine va_get (D := D) (ci := 0) (v := .ref (A 2)) (C := RX0) (T := TX0) (N := 12) hx hb hts hw0 hown hK hP 1 cX_at1 rfl 1 (by decide) k92 (fun _ h9 => h9) rfl dX4_ship_64 ?_
      refine lv_iload_n hx hb dX4_ship_67 rfl (lv_at hl 1 rfl) ?_
      obtain ⟨c_4, hf⟩ := gi_e hf
      refine va_iald hx hb hK hP 2 0 cX_at2 rfl c_4 dX4_ship_68 ?_
      exact hend ((n 1 (p1).toNatClampNeg), q) H locs _ _ hf hP hS dX4_ship_69
    · replace hf := if_f c_3 hf
      by_cases c_5 : p2 = 1
      · replace hf := if_t c_5 hf
        refine lv_tableIn (off := 52) (tgt := 70) hx hb dX4_ship_18 (by rw [c_5]; decide +kernel) (by rw [c_5]; decide +kernel) (by rw [c_5]; decide +kernel) (by decide) ?_
        refine lv_aload_n hx hb dX4_ship_70 rfl (lv_at hl 0 rfl) ?_
        refine va_get (D := D) (ci := 4) (v := .ref (A 1)) (C := RX4) (T := TX4) (N := 8) hx hb hts hw4 hown hK hP 0 cX_at0 rfl 0 (by decide) k10 (fun _ h9 => h9) rfl dX4_ship_71 ?_
        refine va_get (D := D) (ci := 0) (v := .ref (A 3)) (C := RX0) (T := TX0) (N := 12) hx hb hts hw0 hown hK hP 1 cX_at1 rfl 2 (by decide) k112 (fun _ h9 => h9) rfl dX4_ship_74 ?_
        refine lv_iload_n hx hb dX4_ship_77 rfl (lv_at hl 1 rfl) ?_
        obtain ⟨c_6, hf⟩ := gi_e hf
        refine va_iald hx hb hK hP 3 0 cX_at3 rfl c_6 dX4_ship_78 ?_
        exact hend ((n 2 (p1).toNatClampNeg), q) H locs _ _ hf hP hS dX4_ship_79
      · replace hf := if_f c_5 hf
        by_cases c_7 : p2 = 2
        · replace hf := if_t c_7 hf
          refine lv_tableIn (off := 62) (tgt := 80) hx hb dX4_ship_18 (by rw [c_7]; decide +kernel) (by rw [c_7]; decide +kernel) (by rw [c_7]; decide +kernel) (by decide) ?_
          refine lv_aload_n hx hb dX4_ship_80 rfl (lv_at hl 0 rfl) ?_
          refine va_get (D := D) (ci := 4) (v := .ref (A 1)) (C := RX4) (T := TX4) (N := 8) hx hb hts hw4 hown hK hP 0 cX_at0 rfl 0 (by decide) k10 (fun _ h9 => h9) rfl dX4_ship_81 ?_
          refine va_get (D := D) (ci := 0) (v := .ref (A 4)) (C := RX0) (T := TX0) (N := 12) hx hb hts hw0 hown hK hP 1 cX_at1 rfl 3 (by decide) k115 (fun _ h9 => h9) rfl dX4_ship_84 ?_
          refine lv_iload_n hx hb dX4_ship_87 rfl (lv_at hl 1 rfl) ?_
          obtain ⟨c_8, hf⟩ := gi_e hf
          refine va_iald hx hb hK hP 4 0 cX_at4 rfl c_8 dX4_ship_88 ?_
          exact hend ((n 3 (p1).toNatClampNeg), q) H locs _ _ hf hP hS dX4_ship_89
        · replace hf := if_f c_7 hf
          by_cases c_9 : p2 = 3
          · replace hf := if_t c_9 hf
            refine lv_tableIn (off := 72) (tgt := 90) hx hb dX4_ship_18 (by rw [c_9]; decide +kernel) (by rw [c_9]; decide +kernel) (by rw [c_9]; decide +kernel) (by decide) ?_
            refine lv_aload_n hx hb dX4_ship_90 rfl (lv_at hl 0 rfl) ?_
            refine va_get (D := D) (ci := 4) (v := .ref (A 1)) (C := RX4) (T := TX4) (N := 8) hx hb hts hw4 hown hK hP 0 cX_at0 rfl 0 (by decide) k10 (fun _ h9 => h9) rfl dX4_ship_91 ?_
            refine lv_iload_n hx hb dX4_ship_94 rfl (lv_at hl 1 rfl) ?_
            obtain ⟨a_10, ha_10, hf⟩ := bd_e hf
            refine Ct.callV (As := [.int p1]) (rest := []) (st1 := [.int a_10]) (c_X0_holds l D cI (fun j => A (1 + j)) n p1 a_10 ha_10) hx hb hml hown hts (cwV 1 hts gX4_ship_X0_holds rfl rfl rfl hd_X0_holds ⟨Nat.le_of_ble_eq_true rfl, Nat.le_of_ble_eq_true rfl⟩) (va_recv hK hP (ci := 0) (q0 := 1) rfl cX_at1) ln_X_H_n hA hK hP hD hS rfl hl.1 rfl rfl (Nat.le_of_ble_eq_true rfl) dX4_ship_95 (fun H locs hP hD hS => ?_)
            exact hend (a_10, q) H locs _ _ hf hP hS dX4_ship_98
          · replace hf := if_f c_9 hf
            by_cases c_11 : p2 = 4
            · replace hf := if_t c_11 hf
              refine lv_tableIn (off := 81) (tgt := 99) hx hb dX4_ship_18 (by rw [c_11]; decide +kernel) (by rw [c_11]; decide +kernel) (by rw [c_11]; decide +kernel) (by decide) ?_
              refine lv_aload_n hx hb dX4_ship_99 rfl (lv_at hl 0 rfl) ?_
              refine va_get (D := D) (ci := 4) (v := .ref (A 1)) (C := RX4) (T := TX4) (N := 8) hx hb hts hw4 hown hK hP 0 cX_at0 rfl 0 (by decide) k10 (fun _ h9 => h9) rfl dX4_ship_100 ?_
              refine lv_iload_n hx hb dX4_ship_103 rfl (lv_at hl 1 rfl) ?_
              obtain ⟨a_12, ha_12, hf⟩ := bd_e hf
              refine Ct.callV (As := [.int p1]) (rest := []) (st1 := [.int a_12]) (c_X0_lacks l D cI (fun j => A (1 + j)) n p1 a_12 ha_12) hx hb hml hown hts (cwV 1 hts gX4_ship_X0_lacks rfl rfl rfl hd_X0_lacks ⟨Nat.le_of_ble_eq_true rfl, Nat.le_of_ble_eq_true rfl⟩) (va_recv hK hP (ci := 0) (q0 := 1) rfl cX_at1) ln_X_H_n hA hK hP hD hS rfl hl.1 rfl rfl (Nat.le_of_ble_eq_true rfl) dX4_ship_104 (fun H locs hP hD hS => ?_)
              exact hend (a_12, q) H locs _ _ hf hP hS dX4_ship_107
            · replace hf := if_f c_11 hf
              by_cases c_13 : p2 = 5
              · replace hf := if_t c_13 hf
                refine lv_tableIn (off := 90) (tgt := 108) hx hb dX4_ship_18 (by rw [c_13]; decide +kernel) (by rw [c_13]; decide +kernel) (by rw [c_13]; decide +kernel) (by decide) ?_
                refine lv_aload_n hx hb dX4_ship_108 rfl (lv_at hl 0 rfl) ?_
                refine va_get (D := D) (ci := 4) (v := .ref (A 1)) (C := RX4) (T := TX4) (N := 8) hx hb hts hw4 hown hK hP 0 cX_at0 rfl 0 (by decide) k10 (fun _ h9 => h9) rfl dX4_ship_109 ?_
                refine lv_iload_n hx hb dX4_ship_112 rfl (lv_at hl 1 rfl) ?_
                obtain ⟨a_14, ha_14, hf⟩ := bd_e hf
                refine Ct.callV (As := [.int p1]) (rest := []) (st1 := [.int a_14]) (c_X0_pool l D cI (fun j => A (1 + j)) n p1 a_14 ha_14) hx hb hml hown hts (cwV 1 hts gX4_ship_X0_pool rfl rfl rfl hd_X0_pool ⟨Nat.le_of_ble_eq_true rfl, Nat.le_of_ble_eq_true rfl⟩) (va_recv hK hP (ci := 0) (q0 := 1) rfl cX_at1) ln_X_H_n hA hK hP hD hS rfl hl.1 rfl rfl (Nat.le_of_ble_eq_true rfl) dX4_ship_113 (fun H locs hP hD hS => ?_)
                exact hend (a_14, q) H locs _ _ hf hP hS dX4_ship_116
              · replace hf := if_f c_13 hf
                by_cases c_15 : p2 = 6
                · replace hf := if_t c_15 hf
                  refine lv_tableIn (off := 99) (tgt := 117) hx hb dX4_ship_18 (by rw [c_15]; decide +kernel) (by rw [c_15]; decide +kernel) (by rw [c_15]; decide +kernel) (by decide) ?_
                  refine lv_aload_n hx hb dX4_ship_117 rfl (lv_at hl 0 rfl) ?_
                  refine va_get (D := D) (ci := 4) (v := .ref (A 1)) (C := RX4) (T := TX4) (N := 8) hx hb hts hw4 hown hK hP 0 cX_at0 rfl 0 (by decide) k10 (fun _ h9 => h9) rfl dX4_ship_118 ?_
                  refine lv_iload_n hx hb dX4_ship_121 rfl (lv_at hl 1 rfl) ?_
                  obtain ⟨a_16, ha_16, hf⟩ := bd_e hf
                  refine Ct.callV (As := [.int p1]) (rest := []) (st1 := [.int a_16]) (c_X0_crew l D cI (fun j => A (1 + j)) n p1 a_16 ha_16) hx hb hml hown hts (cwV 1 hts gX4_ship_X0_crew rfl rfl rfl hd_X0_crew ⟨Nat.le_of_ble_eq_true rfl, Nat.le_of_ble_eq_true rfl⟩) (va_recv hK hP (ci := 0) (q0 := 1) rfl cX_at1) ln_X_H_n hA hK hP hD hS rfl hl.1 rfl rfl (Nat.le_of_ble_eq_true rfl) dX4_ship_122 (fun H locs hP hD hS => ?_)
                  exact hend (a_16, q) H locs _ _ hf hP hS dX4_ship_125
                · replace hf := if_f c_15 hf
                  have ht : (p2).toInt < 0 ∨ 6 < (p2).toInt := by
                    have t0 := lv_neT (a := 0) c_3 (by decide +kernel)
                    have t1 := lv_neT (a := 1) c_5 (by decide +kernel)
                    have t2 := lv_neT (a := 2) c_7 (by decide +kernel)
                    have t3 := lv_neT (a := 3) c_9 (by decide +kernel)
                    have t4 := lv_neT (a := 4) c_11 (by decide +kernel)
                    have t5 := lv_neT (a := 5) c_13 (by decide +kernel)
                    have t6 := lv_neT (a := 6) c_15 (by decide +kernel)
                    omega
                  refine lv_tableOut (tgt := 126) hx hb dX4_ship_18 ht (by decide) ?_
                  refine lv_aload_n hx hb dX4_ship_126 rfl (lv_at hl 0 rfl) ?_
                  refine lv_bipush (v := -2) hx hb dX4_ship_127 (by decide +kernel) ?_
                  obtain ⟨a_17, ha_17, hf⟩ := bd_e hf
                  refine Ct.callV (As := [.int (-2 : Int32)]) (rest := []) (st1 := [.int a_17.1]) (c_X4_refused l D cI A n t k g w z q (-2 : Int32) a_17 ha_17) hx hb hml hown hts (cwV 1 hts gX4_ship_X4_refused rfl rfl rfl hd_X4_refused ⟨Nat.le_of_ble_eq_true rfl, Nat.le_of_ble_eq_true rfl⟩) (va_recv hK hP (ci := 4) (q0 := 0) rfl cX_at0) (Ln.id rfl) hA hK hP hD hS rfl hl.1 rfl rfl (Nat.le_of_ble_eq_true rfl) dX4_ship_129 (fun H locs hP hD hS => ?_)
                  replace hP : va_P D vwCl (cX cI A n t k g w z a_17.2) H := hP
                  replace hD : va_D AA (cX cI A n t k g w z a_17.2) := hD
                  exact hend (a_17.1, a_17.2) H locs _ _ hf hP hS dX4_ship_132
  · replace hf := if_t c_2 hf
    refine lv_aload_n hx hb dX4_ship_11 rfl (lv_at hl 0 rfl) ?_
    refine lv_iconst (v := -1) hx hb dX4_ship_12 (by decide) ?_
    obtain ⟨a_18, ha_18, hf⟩ := bd_e hf
    refine Ct.callV (As := [.int (-1 : Int32)]) (rest := []) (st1 := [.int a_18.1]) (c_X4_refused l D cI A n t k g w z q (-1 : Int32) a_18 ha_18) hx hb hml hown hts (cwV 1 hts gX4_ship_X4_refused rfl rfl rfl hd_X4_refused ⟨Nat.le_of_ble_eq_true rfl, Nat.le_of_ble_eq_true rfl⟩) (va_recv hK hP (ci := 4) (q0 := 0) rfl cX_at0) (Ln.id rfl) hA hK hP hD hS rfl hl.1 rfl rfl (Nat.le_of_ble_eq_true rfl) dX4_ship_13 (fun H locs hP hD hS => ?_)
    replace hP : va_P D vwCl (cX cI A n t k g w z a_18.2) H := hP
    replace hD : va_D AA (cX cI A n t k g w z a_18.2) := hD
    exact hend (a_18.1, a_18.2) H locs _ _ hf hP hS dX4_ship_16

def rm_X4_man : Room := { frames := 3, cells := 0, slots := 0, locals := 65 }
theorem hd_X4_man : yX4_man.cls = RX4 ∧ yX4_man.cls ≠ "java/lang/invoke/MethodHandle" ∧ yX4_man.cls ≠ "java/lang/invoke/VarHandle" ∧ (parseMethodDescriptor yX4_man.desc).map (fun d => d.parameters.length) = some 2 := by decide +kernel
set_option maxRecDepth 100000 in
set_option maxHeartbeats 4000000 in
theorem c_X4_man (l : Launch) (D : va_G) (cI : ClassId) (A : Nat → Nat) (n : St) (t : St) (k : St) (g : St) (w : St) (z : St) (q : St) (p1 : Int32) (p2 : Int32) (r : Int32 × St) (hf : f_X4_man n t k g w z q p1 p2 = some r) : Ct l yX4_man wsX4_man rm_X4_man D cI (cX cI A n t k g w z q) (cX cI A n t k g w z r.2) [.ref (A 0), .int p1, .int p2] (some (.int r.1)) := by
  unfold f_X4_man at hf
  refine Ct.ofI (cc := cX4_man) (maxL := 3) (by decide +kernel) rfl (Nat.le_of_ble_eq_true rfl) ?_
  intro p e s m args below meth c AA Q H locs ls hx hb hml hown hts hA hK hP hD hS hl hend0
  have hend : ∀ (r1 : Int32 × St) (H : Heap) (locs : List Loc) (pc : Nat) (ls : Array Slot), some r1 = some r → va_P D vwCl (cX cI A n t k g w z r1.2) H → va_S AA s.heap H locs → decode cX4_man pc = .ok (.ireturn, 1) → W p l e rm_X4_man s m args below meth c H locs 0 0 Q (F0 m pc ls [.int r1.1]) := by
    intro r1 H locs pc ls e1 hP hS hd; cases e1; exact hend0 H locs pc ls hP hS hd
  clear hend0
  have hw0 : ∀ w ∈ wsX00, w ∈ wsX4_man := by decide +kernel
  have hw4 : ∀ w ∈ wsX40, w ∈ wsX4_man := by decide +kernel
  have k10 := hts (.fieldLink RX4 10 "AnchorsForConfession" "now" "LAnchorsForConfession$Harbour;") (by decide +kernel)
  have k86 := hts (.fieldLink RX4 86 "AnchorsForConfession$Harbour" "aboard" "[I") (by decide +kernel)
  have k89 := hts (.fieldLink RX4 89 "AnchorsForConfession$Harbour" "sinsOf" "[I") (by decide +kernel)
  have k95 := hts (.fieldLink RX4 95 "AnchorsForConfession$Harbour" "kind" "[I") (by decide +kernel)
  have k98 := hts (.fieldLink RX4 98 "AnchorsForConfession$Harbour" "figure" "[I") (by decide +kernel)
  replace hl : lv_has ls 3 [(0, .ref (A 0)), (1, .int p1), (2, .int p2)] := hl
  refine lv_aload_n hx hb dX4_man_0 rfl (lv_at hl 0 rfl) ?_
  refine va_get (D := D) (ci := 4) (v := .ref (A 1)) (C := RX4) (T := TX4) (N := 8) hx hb hts hw4 hown hK hP 0 cX_at0 rfl 0 (by decide) k10 (fun _ h9 => h9) rfl dX4_man_1 ?_
  refine lv_iload_n hx hb dX4_man_4 rfl (lv_at hl 1 rfl) ?_
  obtain ⟨a_1, ha_1, hf⟩ := bd_e hf
  refine Ct.callV (As := [.int p1]) (rest := []) (st1 := [.int a_1]) (c_X0_hasMan l D cI (fun j => A (1 + j)) n p1 a_1 ha_1) hx hb hml hown hts (cwV 1 hts gX4_man_X0_hasMan rfl rfl rfl hd_X0_hasMan ⟨Nat.le_of_ble_eq_true rfl, Nat.le_of_ble_eq_true rfl⟩) (va_recv hK hP (ci := 0) (q0 := 1) rfl cX_at1) ln_X_H_n hA hK hP hD hS rfl hl.1 rfl rfl (Nat.le_of_ble_eq_true rfl) dX4_man_5 (fun H locs hP hD hS => ?_)
  refine lv_if_ne (tgt := 17) hx hb dX4_man_8 (by decide) (fun c_2 => ?_) (fun c_2 => ?_)
  · replace hf := if_f c_2 hf
    refine lv_iload_n hx hb dX4_man_17 rfl (lv_at hl 2 rfl) ?_
    by_cases c_3 : p2 = 0
    · replace hf := if_t c_3 hf
      refine lv_tableIn (off := 42) (tgt := 60) hx hb dX4_man_18 (by rw [c_3]; decide +kernel) (by rw [c_3]; decide +kernel) (by rw [c_3]; decide +kernel) (by decide) ?_
      refine lv_aload_n hx hb dX4_man_60 rfl (lv_at hl 0 rfl) ?_
      refine va_get (D := D) (ci := 4) (v := .ref (A 1)) (C := RX4) (T := TX4) (N := 8) hx hb hts hw4 hown hK hP 0 cX_at0 rfl 0 (by decide) k10 (fun _ h9 => h9) rfl dX4_man_61 ?_
      refine va_get (D := D) (ci := 0) (v := .ref (A 5)) (C := RX0) (T := TX0) (N := 12) hx hb hts hw0 hown hK hP 1 cX_at1 rfl 5 (by decide) k95 (fun _ h9 => h9) rfl dX4_man_64 ?_
      refine lv_iload_n hx hb dX4_man_67 rfl (lv_at hl 1 rfl) ?_
      obtain ⟨c_4, hf⟩ := gi_e hf
      refine va_iald hx hb hK hP 5 0 cX_at5 rfl c_4 dX4_man_68 ?_
      exact hend ((n 4 (p1).toNatClampNeg), q) H locs _ _ hf hP hS dX4_man_69
    · replace hf := if_f c_3 hf
      by_cases c_5 : p2 = 1
      · replace hf := if_t c_5 hf
        refine lv_tableIn (off := 52) (tgt := 70) hx hb dX4_man_18 (by rw [c_5]; decide +kernel) (by rw [c_5]; decide +kernel) (by rw [c_5]; decide +kernel) (by decide) ?_
        refine lv_aload_n hx hb dX4_man_70 rfl (lv_at hl 0 rfl) ?_
        refine va_get (D := D) (ci := 4) (v := .ref (A 1)) (C := RX4) (T := TX4) (N := 8) hx hb hts hw4 hown hK hP 0 cX_at0 rfl 0 (by decide) k10 (fun _ h9 => h9) rfl dX4_man_71 ?_
        refine va_get (D := D) (ci := 0) (v := .ref (A 6)) (C := RX0) (T := TX0) (N := 12) hx hb hts hw0 hown hK hP 1 cX_at1 rfl 6 (by decide) k98 (fun _ h9 => h9) rfl dX4_man_74 ?_
        refine lv_iload_n hx hb dX4_man_77 rfl (lv_at hl 1 rfl) ?_
        obtain ⟨c_6, hf⟩ := gi_e hf
        refine va_iald hx hb hK hP 6 0 cX_at6 rfl c_6 dX4_man_78 ?_
        exact hend ((n 5 (p1).toNatClampNeg), q) H locs _ _ hf hP hS dX4_man_79
      · replace hf := if_f c_5 hf
        by_cases c_7 : p2 = 2
        · replace hf := if_t c_7 hf
          refine lv_tableIn (off := 62) (tgt := 80) hx hb dX4_man_18 (by rw [c_7]; decide +kernel) (by rw [c_7]; decide +kernel) (by rw [c_7]; decide +kernel) (by decide) ?_
          refine lv_aload_n hx hb dX4_man_80 rfl (lv_at hl 0 rfl) ?_
          refine va_get (D := D) (ci := 4) (v := .ref (A 1)) (C := RX4) (T := TX4) (N := 8) hx hb hts hw4 hown hK hP 0 cX_at0 rfl 0 (by decide) k10 (fun _ h9 => h9) rfl dX4_man_81 ?_
          refine va_get (D := D) (ci := 0) (v := .ref (A 7)) (C := RX0) (T := TX0) (N := 12) hx hb hts hw0 hown hK hP 1 cX_at1 rfl 7 (by decide) k89 (fun _ h9 => h9) rfl dX4_man_84 ?_
          refine lv_iload_n hx hb dX4_man_87 rfl (lv_at hl 1 rfl) ?_
          obtain ⟨c_8, hf⟩ := gi_e hf
          refine va_iald hx hb hK hP 7 0 cX_at7 rfl c_8 dX4_man_88 ?_
          exact hend ((n 6 (p1).toNatClampNeg), q) H locs _ _ hf hP hS dX4_man_89
        · replace hf := if_f c_7 hf
          by_cases c_9 : p2 = 3
          · replace hf := if_t c_9 hf
            refine lv_tableIn (off := 72) (tgt := 90) hx hb dX4_man_18 (by rw [c_9]; decide +kernel) (by rw [c_9]; decide +kernel) (by rw [c_9]; decide +kernel) (by decide) ?_
            refine lv_aload_n hx hb dX4_man_90 rfl (lv_at hl 0 rfl) ?_
            refine va_get (D := D) (ci := 4) (v := .ref (A 1)) (C := RX4) (T := TX4) (N := 8) hx hb hts hw4 hown hK hP 0 cX_at0 rfl 0 (by decide) k10 (fun _ h9 => h9) rfl dX4_man_91 ?_
            refine va_get (D := D) (ci := 0) (v := .ref (A 8)) (C := RX0) (T := TX0) (N := 12) hx hb hts hw0 hown hK hP 1 cX_at1 rfl 8 (by decide) k86 (fun _ h9 => h9) rfl dX4_man_94 ?_
            refine lv_iload_n hx hb dX4_man_97 rfl (lv_at hl 1 rfl) ?_
            obtain ⟨c_10, hf⟩ := gi_e hf
            refine va_iald hx hb hK hP 8 0 cX_at8 rfl c_10 dX4_man_98 ?_
            exact hend ((n 7 (p1).toNatClampNeg), q) H locs _ _ hf hP hS dX4_man_99
          · replace hf := if_f c_9 hf
            by_cases c_11 : p2 = 4
            · replace hf := if_t c_11 hf
              refine lv_tableIn (off := 82) (tgt := 100) hx hb dX4_man_18 (by rw [c_11]; decide +kernel) (by rw [c_11]; decide +kernel) (by rw [c_11]; decide +kernel) (by decide) ?_
              refine lv_aload_n hx hb dX4_man_100 rfl (lv_at hl 0 rfl) ?_
              refine va_get (D := D) (ci := 4) (v := .ref (A 1)) (C := RX4) (T := TX4) (N := 8) hx hb hts hw4 hown hK hP 0 cX_at0 rfl 0 (by decide) k10 (fun _ h9 => h9) rfl dX4_man_101 ?_
              refine lv_iload_n hx hb dX4_man_104 rfl (lv_at hl 1 rfl) ?_
              obtain ⟨a_12, ha_12, hf⟩ := bd_e hf
              refine Ct.callV (As := [.int p1]) (rest := []) (st1 := [.int a_12]) (c_X0_worth l D cI (fun j => A (1 + j)) n p1 a_12 ha_12) hx hb hml hown hts (cwV 1 hts gX4_man_X0_worth rfl rfl rfl hd_X0_worth ⟨Nat.le_of_ble_eq_true rfl, Nat.le_of_ble_eq_true rfl⟩) (va_recv hK hP (ci := 0) (q0 := 1) rfl cX_at1) ln_X_H_n hA hK hP hD hS rfl hl.1 rfl rfl (Nat.le_of_ble_eq_true rfl) dX4_man_105 (fun H locs hP hD hS => ?_)
              exact hend (a_12, q) H locs _ _ hf hP hS dX4_man_108
            · replace hf := if_f c_11 hf
              by_cases c_13 : p2 = 5
              · replace hf := if_t c_13 hf
                refine lv_tableIn (off := 91) (tgt := 109) hx hb dX4_man_18 (by rw [c_13]; decide +kernel) (by rw [c_13]; decide +kernel) (by rw [c_13]; decide +kernel) (by decide) ?_
                refine lv_aload_n hx hb dX4_man_109 rfl (lv_at hl 0 rfl) ?_
                refine va_get (D := D) (ci := 4) (v := .ref (A 1)) (C := RX4) (T := TX4) (N := 8) hx hb hts hw4 hown hK hP 0 cX_at0 rfl 0 (by decide) k10 (fun _ h9 => h9) rfl dX4_man_110 ?_
                refine lv_iload_n hx hb dX4_man_113 rfl (lv_at hl 1 rfl) ?_
                obtain ⟨a_14, ha_14, hf⟩ := bd_e hf
                refine Ct.callV (As := [.int p1]) (rest := []) (st1 := [.int a_14]) (c_X0_carried l D cI (fun j => A (1 + j)) n p1 a_14 ha_14) hx hb hml hown hts (cwV 1 hts gX4_man_X0_carried rfl rfl rfl hd_X0_carried ⟨Nat.le_of_ble_eq_true rfl, Nat.le_of_ble_eq_true rfl⟩) (va_recv hK hP (ci := 0) (q0 := 1) rfl cX_at1) ln_X_H_n hA hK hP hD hS rfl hl.1 rfl rfl (Nat.le_of_ble_eq_true rfl) dX4_man_114 (fun H locs hP hD hS => ?_)
                exact hend (a_14, q) H locs _ _ hf hP hS dX4_man_117
              · replace hf := if_f c_13 hf
                by_cases c_15 : p2 = 6
                · replace hf := if_t c_15 hf
                  refine lv_tableIn (off := 100) (tgt := 118) hx hb dX4_man_18 (by rw [c_15]; decide +kernel) (by rw [c_15]; decide +kernel) (by rw [c_15]; decide +kernel) (by decide) ?_
                  refine lv_aload_n hx hb dX4_man_118 rfl (lv_at hl 0 rfl) ?_
                  refine va_get (D := D) (ci := 4) (v := .ref (A 1)) (C := RX4) (T := TX4) (N := 8) hx hb hts hw4 hown hK hP 0 cX_at0 rfl 0 (by decide) k10 (fun _ h9 => h9) rfl dX4_man_119 ?_
                  refine lv_iload_n hx hb dX4_man_122 rfl (lv_at hl 1 rfl) ?_
                  obtain ⟨a_16, ha_16, hf⟩ := bd_e hf
                  refine Ct.callV (As := [.int p1]) (rest := []) (st1 := [.int a_16]) (c_X0_canTell l D cI (fun j => A (1 + j)) n p1 a_16 ha_16) hx hb hml hown hts (cwV 1 hts gX4_man_X0_canTell rfl rfl rfl hd_X0_canTell ⟨Nat.le_of_ble_eq_true rfl, Nat.le_of_ble_eq_true rfl⟩) (va_recv hK hP (ci := 0) (q0 := 1) rfl cX_at1) ln_X_H_n hA hK hP hD hS rfl hl.1 rfl rfl (Nat.le_of_ble_eq_true rfl) dX4_man_123 (fun H locs hP hD hS => ?_)
                  refine lv_if_eq (tgt := 133) hx hb dX4_man_126 (by decide) (fun c_17 => ?_) (fun c_17 => ?_)
                  · replace hf := if_t c_17 hf
                    refine lv_iconst (v := 0) hx hb dX4_man_133 (by decide) ?_
                    exact hend ((0 : Int32), q) H locs _ _ hf hP hS dX4_man_134
                  · replace hf := if_f c_17 hf
                    refine lv_iconst (v := 1) hx hb dX4_man_129 (by decide) ?_
                    refine lv_goto (tgt := 134) hx hb dX4_man_130 (by decide) ?_
                    exact hend ((1 : Int32), q) H locs _ _ hf hP hS dX4_man_134
                · replace hf := if_f c_15 hf
                  have ht : (p2).toInt < 0 ∨ 6 < (p2).toInt := by
                    have t0 := lv_neT (a := 0) c_3 (by decide +kernel)
                    have t1 := lv_neT (a := 1) c_5 (by decide +kernel)
                    have t2 := lv_neT (a := 2) c_7 (by decide +kernel)
                    have t3 := lv_neT (a := 3) c_9 (by decide +kernel)
                    have t4 := lv_neT (a := 4) c_11 (by decide +kernel)
                    have t5 := lv_neT (a := 5) c_13 (by decide +kernel)
                    have t6 := lv_neT (a := 6) c_15 (by decide +kernel)
                    omega
                  refine lv_tableOut (tgt := 135) hx hb dX4_man_18 ht (by decide) ?_
                  refine lv_aload_n hx hb dX4_man_135 rfl (lv_at hl 0 rfl) ?_
                  refine lv_bipush (v := -2) hx hb dX4_man_136 (by decide +kernel) ?_
                  obtain ⟨a_18, ha_18, hf⟩ := bd_e hf
                  refine Ct.callV (As := [.int (-2 : Int32)]) (rest := []) (st1 := [.int a_18.1]) (c_X4_refused l D cI A n t k g w z q (-2 : Int32) a_18 ha_18) hx hb hml hown hts (cwV 1 hts gX4_man_X4_refused rfl rfl rfl hd_X4_refused ⟨Nat.le_of_ble_eq_true rfl, Nat.le_of_ble_eq_true rfl⟩) (va_recv hK hP (ci := 4) (q0 := 0) rfl cX_at0) (Ln.id rfl) hA hK hP hD hS rfl hl.1 rfl rfl (Nat.le_of_ble_eq_true rfl) dX4_man_138 (fun H locs hP hD hS => ?_)
                  replace hP : va_P D vwCl (cX cI A n t k g w z a_18.2) H := hP
                  replace hD : va_D AA (cX cI A n t k g w z a_18.2) := hD
                  exact hend (a_18.1, a_18.2) H locs _ _ hf hP hS dX4_man_141
  · replace hf := if_t c_2 hf
    refine lv_aload_n hx hb dX4_man_11 rfl (lv_at hl 0 rfl) ?_
    refine lv_iconst (v := -1) hx hb dX4_man_12 (by decide) ?_
    obtain ⟨a_19, ha_19, hf⟩ := bd_e hf
    refine Ct.callV (As := [.int (-1 : Int32)]) (rest := []) (st1 := [.int a_19.1]) (c_X4_refused l D cI A n t k g w z q (-1 : Int32) a_19 ha_19) hx hb hml hown hts (cwV 1 hts gX4_man_X4_refused rfl rfl rfl hd_X4_refused ⟨Nat.le_of_ble_eq_true rfl, Nat.le_of_ble_eq_true rfl⟩) (va_recv hK hP (ci := 4) (q0 := 0) rfl cX_at0) (Ln.id rfl) hA hK hP hD hS rfl hl.1 rfl rfl (Nat.le_of_ble_eq_true rfl) dX4_man_13 (fun H locs hP hD hS => ?_)
    replace hP : va_P D vwCl (cX cI A n t k g w z a_19.2) H := hP
    replace hD : va_D AA (cX cI A n t k g w z a_19.2) := hD
    exact hend (a_19.1, a_19.2) H locs _ _ hf hP hS dX4_man_16

def rm_X4_shipThen : Room := { frames := 3, cells := 0, slots := 0, locals := 64 }
theorem hd_X4_shipThen : yX4_shipThen.cls = RX4 ∧ yX4_shipThen.cls ≠ "java/lang/invoke/MethodHandle" ∧ yX4_shipThen.cls ≠ "java/lang/invoke/VarHandle" ∧ (parseMethodDescriptor yX4_shipThen.desc).map (fun d => d.parameters.length) = some 3 := by decide +kernel
set_option maxRecDepth 100000 in
set_option maxHeartbeats 4000000 in
theorem c_X4_shipThen (l : Launch) (D : va_G) (cI : ClassId) (A : Nat → Nat) (n : St) (t : St) (k : St) (g : St) (w : St) (z : St) (q : St) (p1 : Int32) (p2 : Int32) (p3 : Int32) (r : Int32 × St × St) (hf : f_X4_shipThen n t k g w z q p1 p2 p3 = some r) : Ct l yX4_shipThen wsX4_shipThen rm_X4_shipThen D cI (cX cI A n t k g w z q) (cX cI A n r.2.1 k g w z r.2.2) [.ref (A 0), .int p1, .int p2, .int p3] (some (.int r.1)) := by
  unfold f_X4_shipThen at hf
  refine Ct.ofI (cc := cX4_shipThen) (maxL := 4) (by decide +kernel) rfl (Nat.le_of_ble_eq_true rfl) ?_
  intro p e s m args below meth c AA Q H locs ls hx hb hml hown hts hA hK hP hD hS hl hend0
  have hend : ∀ (r1 : Int32 × St × St) (H : Heap) (locs : List Loc) (pc : Nat) (ls : Array Slot), some r1 = some r → va_P D vwCl (cX cI A n r1.2.1 k g w z r1.2.2) H → va_S AA s.heap H locs → decode cX4_shipThen pc = .ok (.ireturn, 1) → W p l e rm_X4_shipThen s m args below meth c H locs 0 0 Q (F0 m pc ls [.int r1.1]) := by
    intro r1 H locs pc ls e1 hP hS hd; cases e1; exact hend0 H locs pc ls hP hS hd
  clear hend0
  have hw0 : ∀ w ∈ wsX00, w ∈ wsX4_shipThen := by decide +kernel
  have hw4 : ∀ w ∈ wsX40, w ∈ wsX4_shipThen := by decide +kernel
  have k10 := hts (.fieldLink RX4 10 "AnchorsForConfession" "now" "LAnchorsForConfession$Harbour;") (by decide +kernel)
  have k16 := hts (.fieldLink RX4 16 "AnchorsForConfession" "thought" "LAnchorsForConfession$Harbour;") (by decide +kernel)
  have k115 := hts (.fieldLink RX4 115 "AnchorsForConfession$Harbour" "outFor" "[I") (by decide +kernel)
  replace hl : lv_has ls 4 [(0, .ref (A 0)), (1, .int p1), (2, .int p2), (3, .int p3)] := hl
  refine lv_aload_n hx hb dX4_shipThen_0 rfl (lv_at hl 0 rfl) ?_
  refine va_get (D := D) (ci := 4) (v := .ref (A 1)) (C := RX4) (T := TX4) (N := 8) hx hb hts hw4 hown hK hP 0 cX_at0 rfl 0 (by decide) k10 (fun _ h9 => h9) rfl dX4_shipThen_1 ?_
  refine lv_iload_n hx hb dX4_shipThen_4 rfl (lv_at hl 1 rfl) ?_
  obtain ⟨a_1, ha_1, hf⟩ := bd_e hf
  refine Ct.callV (As := [.int p1]) (rest := []) (st1 := [.int a_1]) (c_X0_hasShip l D cI (fun j => A (1 + j)) n p1 a_1 ha_1) hx hb hml hown hts (cwV 1 hts gX4_shipThen_X0_hasShip rfl rfl rfl hd_X0_hasShip ⟨Nat.le_of_ble_eq_true rfl, Nat.le_of_ble_eq_true rfl⟩) (va_recv hK hP (ci := 0) (q0 := 1) rfl cX_at1) ln_X_H_n hA hK hP hD hS rfl hl.1 rfl rfl (Nat.le_of_ble_eq_true rfl) dX4_shipThen_5 (fun H locs hP hD hS => ?_)
  refine lv_if_ne (tgt := 17) hx hb dX4_shipThen_8 (by decide) (fun c_2 => ?_) (fun c_2 => ?_)
  · replace hf := if_f c_2 hf
    refine lv_iload_n hx hb dX4_shipThen_17 rfl (lv_at hl 2 rfl) ?_
    refine lv_if_ge (tgt := 28) hx hb dX4_shipThen_18 (by decide) (fun c_3 => ?_) (fun c_3 => ?_)
    · replace hf := if_t c_3 hf
      refine lv_iload_n hx hb dX4_shipThen_28 rfl (lv_at hl 2 rfl) ?_
      refine lv_bipush (v := 60) hx hb dX4_shipThen_29 (by decide +kernel) ?_
      refine lv_icmp_le (tgt := 41) hx hb dX4_shipThen_31 (by decide) (fun c_4 => ?_) (fun c_4 => ?_)
      · replace hf := if_t c_4 hf
        refine lv_iload_n hx hb dX4_shipThen_41 rfl (lv_at hl 3 rfl) ?_
        refine lv_if_eq (tgt := 57) hx hb dX4_shipThen_42 (by decide) (fun c_5 => ?_) (fun c_5 => ?_)
        · replace hf := if_t c_5 hf
          refine lv_aload_n hx hb dX4_shipThen_57 rfl (lv_at hl 0 rfl) ?_
          refine va_get (D := D) (ci := 4) (v := .ref (A 10)) (C := RX4) (T := TX4) (N := 8) hx hb hts hw4 hown hK hP 0 cX_at0 rfl 1 (by decide) k16 (fun _ h9 => h9) rfl dX4_shipThen_58 ?_
          refine lv_aload_n hx hb dX4_shipThen_61 rfl (lv_at hl 0 rfl) ?_
          refine va_get (D := D) (ci := 4) (v := .ref (A 1)) (C := RX4) (T := TX4) (N := 8) hx hb hts hw4 hown hK hP 0 cX_at0 rfl 0 (by decide) k10 (fun _ h9 => h9) rfl dX4_shipThen_62 ?_
          obtain ⟨a_6, ha_6, hf⟩ := bd_e hf
          refine Ct.callV (As := [.ref (A 1)]) (rest := []) (st1 := []) (c_X0_copyFrom l D cI (fun j => A (10 + j)) (fun j => A (1 + j)) t n a_6 ha_6) hx hb hml hown hts (cwV 1 hts gX4_shipThen_X0_copyFrom rfl rfl rfl hd_X0_copyFrom ⟨Nat.le_of_ble_eq_true rfl, Nat.le_of_ble_eq_true rfl⟩) (va_recv hK hP (ci := 0) (q0 := 10) rfl cX_at10) ln_X_HH_tn hA hK hP hD hS rfl hl.1 rfl rfl (Nat.le_of_ble_eq_true rfl) dX4_shipThen_65 (fun H locs hP hD hS => ?_)
          replace hP : va_P D vwCl (cX cI A n a_6 k g w z q) H := hP
          replace hD : va_D AA (cX cI A n a_6 k g w z q) := hD
          refine lv_aload_n hx hb dX4_shipThen_68 rfl (lv_at hl 0 rfl) ?_
          refine va_get (D := D) (ci := 4) (v := .ref (A 10)) (C := RX4) (T := TX4) (N := 8) hx hb hts hw4 hown hK hP 0 cX_at0 rfl 1 (by decide) k16 (fun _ h9 => h9) rfl dX4_shipThen_69 ?_
          refine lv_iload_n hx hb dX4_shipThen_72 rfl (lv_at hl 2 rfl) ?_
          obtain ⟨a_7, ha_7, hf⟩ := bd_e hf
          refine Ct.callV (As := [.int p2]) (rest := []) (st1 := []) (c_X0_passTides l D cI (fun j => A (10 + j)) a_6 p2 a_7 ha_7) hx hb hml hown hts (cwV 1 hts gX4_shipThen_X0_passTides rfl rfl rfl hd_X0_passTides ⟨Nat.le_of_ble_eq_true rfl, Nat.le_of_ble_eq_true rfl⟩) (va_recv hK hP (ci := 0) (q0 := 10) rfl cX_at10) ln_X_H_t hA hK hP hD hS rfl hl.1 rfl rfl (Nat.le_of_ble_eq_true rfl) dX4_shipThen_73 (fun H locs hP hD hS => ?_)
          replace hP : va_P D vwCl (cX cI A n a_7 k g w z q) H := hP
          replace hD : va_D AA (cX cI A n a_7 k g w z q) := hD
          refine lv_iload_n hx hb dX4_shipThen_76 rfl (lv_at hl 3 rfl) ?_
          refine lv_if_ne (tgt := 92) hx hb dX4_shipThen_77 (by decide) (fun c_8 => ?_) (fun c_8 => ?_)
          · replace hf := if_f c_8 hf
            refine lv_aload_n hx hb dX4_shipThen_92 rfl (lv_at hl 0 rfl) ?_
            refine va_get (D := D) (ci := 4) (v := .ref (A 10)) (C := RX4) (T := TX4) (N := 8) hx hb hts hw4 hown hK hP 0 cX_at0 rfl 1 (by decide) k16 (fun _ h9 => h9) rfl dX4_shipThen_93 ?_
            refine lv_iload_n hx hb dX4_shipThen_96 rfl (lv_at hl 1 rfl) ?_
            obtain ⟨a_9, ha_9, hf⟩ := bd_e hf
            refine Ct.callV (As := [.int p1]) (rest := []) (st1 := [.int a_9]) (c_X0_holds l D cI (fun j => A (10 + j)) a_7 p1 a_9 ha_9) hx hb hml hown hts (cwV 1 hts gX4_shipThen_X0_holds rfl rfl rfl hd_X0_holds ⟨Nat.le_of_ble_eq_true rfl, Nat.le_of_ble_eq_true rfl⟩) (va_recv hK hP (ci := 0) (q0 := 10) rfl cX_at10) ln_X_H_t hA hK hP hD hS rfl hl.1 rfl rfl (Nat.le_of_ble_eq_true rfl) dX4_shipThen_97 (fun H locs hP hD hS => ?_)
            exact hend (a_9, a_7, q) H locs _ _ hf hP hS dX4_shipThen_100
          · replace hf := if_t c_8 hf
            refine lv_aload_n hx hb dX4_shipThen_80 rfl (lv_at hl 0 rfl) ?_
            refine va_get (D := D) (ci := 4) (v := .ref (A 10)) (C := RX4) (T := TX4) (N := 8) hx hb hts hw4 hown hK hP 0 cX_at0 rfl 1 (by decide) k16 (fun _ h9 => h9) rfl dX4_shipThen_81 ?_
            refine va_get (D := D) (ci := 0) (v := .ref (A 13)) (C := RX0) (T := TX0) (N := 12) hx hb hts hw0 hown hK hP 10 cX_at10 rfl 3 (by decide) k115 (fun _ h9 => h9) rfl dX4_shipThen_84 ?_
            refine lv_iload_n hx hb dX4_shipThen_87 rfl (lv_at hl 1 rfl) ?_
            obtain ⟨c_10, hf⟩ := gi_e hf
            refine va_iald hx hb hK hP 13 0 cX_at13 rfl c_10 dX4_shipThen_88 ?_
            refine lv_goto (tgt := 100) hx hb dX4_shipThen_89 (by decide) ?_
            exact hend ((a_7 3 (p1).toNatClampNeg), a_7, q) H locs _ _ hf hP hS dX4_shipThen_100
        · replace hf := if_f c_5 hf
          refine lv_iload_n hx hb dX4_shipThen_45 rfl (lv_at hl 3 rfl) ?_
          refine lv_iconst (v := 1) hx hb dX4_shipThen_46 (by decide) ?_
          refine lv_icmp_eq (tgt := 57) hx hb dX4_shipThen_47 (by decide) (fun c_11 => ?_) (fun c_11 => ?_)
          · replace hf := if_t c_11 hf
            refine lv_aload_n hx hb dX4_shipThen_57 rfl (lv_at hl 0 rfl) ?_
            refine va_get (D := D) (ci := 4) (v := .ref (A 10)) (C := RX4) (T := TX4) (N := 8) hx hb hts hw4 hown hK hP 0 cX_at0 rfl 1 (by decide) k16 (fun _ h9 => h9) rfl dX4_shipThen_58 ?_
            refine lv_aload_n hx hb dX4_shipThen_61 rfl (lv_at hl 0 rfl) ?_
            refine va_get (D := D) (ci := 4) (v := .ref (A 1)) (C := RX4) (T := TX4) (N := 8) hx hb hts hw4 hown hK hP 0 cX_at0 rfl 0 (by decide) k10 (fun _ h9 => h9) rfl dX4_shipThen_62 ?_
            obtain ⟨a_12, ha_12, hf⟩ := bd_e hf
            refine Ct.callV (As := [.ref (A 1)]) (rest := []) (st1 := []) (c_X0_copyFrom l D cI (fun j => A (10 + j)) (fun j => A (1 + j)) t n a_12 ha_12) hx hb hml hown hts (cwV 1 hts gX4_shipThen_X0_copyFrom rfl rfl rfl hd_X0_copyFrom ⟨Nat.le_of_ble_eq_true rfl, Nat.le_of_ble_eq_true rfl⟩) (va_recv hK hP (ci := 0) (q0 := 10) rfl cX_at10) ln_X_HH_tn hA hK hP hD hS rfl hl.1 rfl rfl (Nat.le_of_ble_eq_true rfl) dX4_shipThen_65 (fun H locs hP hD hS => ?_)
            replace hP : va_P D vwCl (cX cI A n a_12 k g w z q) H := hP
            replace hD : va_D AA (cX cI A n a_12 k g w z q) := hD
            refine lv_aload_n hx hb dX4_shipThen_68 rfl (lv_at hl 0 rfl) ?_
            refine va_get (D := D) (ci := 4) (v := .ref (A 10)) (C := RX4) (T := TX4) (N := 8) hx hb hts hw4 hown hK hP 0 cX_at0 rfl 1 (by decide) k16 (fun _ h9 => h9) rfl dX4_shipThen_69 ?_
            refine lv_iload_n hx hb dX4_shipThen_72 rfl (lv_at hl 2 rfl) ?_
            obtain ⟨a_13, ha_13, hf⟩ := bd_e hf
            refine Ct.callV (As := [.int p2]) (rest := []) (st1 := []) (c_X0_passTides l D cI (fun j => A (10 + j)) a_12 p2 a_13 ha_13) hx hb hml hown hts (cwV 1 hts gX4_shipThen_X0_passTides rfl rfl rfl hd_X0_passTides ⟨Nat.le_of_ble_eq_true rfl, Nat.le_of_ble_eq_true rfl⟩) (va_recv hK hP (ci := 0) (q0 := 10) rfl cX_at10) ln_X_H_t hA hK hP hD hS rfl hl.1 rfl rfl (Nat.le_of_ble_eq_true rfl) dX4_shipThen_73 (fun H locs hP hD hS => ?_)
            replace hP : va_P D vwCl (cX cI A n a_13 k g w z q) H := hP
            replace hD : va_D AA (cX cI A n a_13 k g w z q) := hD
            refine lv_iload_n hx hb dX4_shipThen_76 rfl (lv_at hl 3 rfl) ?_
            refine lv_if_ne (tgt := 92) hx hb dX4_shipThen_77 (by decide) (fun c_14 => ?_) (fun c_14 => ?_)
            · replace hf := if_f c_14 hf
              refine lv_aload_n hx hb dX4_shipThen_92 rfl (lv_at hl 0 rfl) ?_
              refine va_get (D := D) (ci := 4) (v := .ref (A 10)) (C := RX4) (T := TX4) (N := 8) hx hb hts hw4 hown hK hP 0 cX_at0 rfl 1 (by decide) k16 (fun _ h9 => h9) rfl dX4_shipThen_93 ?_
              refine lv_iload_n hx hb dX4_shipThen_96 rfl (lv_at hl 1 rfl) ?_
              obtain ⟨a_15, ha_15, hf⟩ := bd_e hf
              refine Ct.callV (As := [.int p1]) (rest := []) (st1 := [.int a_15]) (c_X0_holds l D cI (fun j => A (10 + j)) a_13 p1 a_15 ha_15) hx hb hml hown hts (cwV 1 hts gX4_shipThen_X0_holds rfl rfl rfl hd_X0_holds ⟨Nat.le_of_ble_eq_true rfl, Nat.le_of_ble_eq_true rfl⟩) (va_recv hK hP (ci := 0) (q0 := 10) rfl cX_at10) ln_X_H_t hA hK hP hD hS rfl hl.1 rfl rfl (Nat.le_of_ble_eq_true rfl) dX4_shipThen_97 (fun H locs hP hD hS => ?_)
              exact hend (a_15, a_13, q) H locs _ _ hf hP hS dX4_shipThen_100
            · replace hf := if_t c_14 hf
              refine lv_aload_n hx hb dX4_shipThen_80 rfl (lv_at hl 0 rfl) ?_
              refine va_get (D := D) (ci := 4) (v := .ref (A 10)) (C := RX4) (T := TX4) (N := 8) hx hb hts hw4 hown hK hP 0 cX_at0 rfl 1 (by decide) k16 (fun _ h9 => h9) rfl dX4_shipThen_81 ?_
              refine va_get (D := D) (ci := 0) (v := .ref (A 13)) (C := RX0) (T := TX0) (N := 12) hx hb hts hw0 hown hK hP 10 cX_at10 rfl 3 (by decide) k115 (fun _ h9 => h9) rfl dX4_shipThen_84 ?_
              refine lv_iload_n hx hb dX4_shipThen_87 rfl (lv_at hl 1 rfl) ?_
              obtain ⟨c_16, hf⟩ := gi_e hf
              refine va_iald hx hb hK hP 13 0 cX_at13 rfl c_16 dX4_shipThen_88 ?_
              refine lv_goto (tgt := 100) hx hb dX4_shipThen_89 (by decide) ?_
              exact hend ((a_13 3 (p1).toNatClampNeg), a_13, q) H locs _ _ hf hP hS dX4_shipThen_100
          · replace hf := if_f c_11 hf
            refine lv_aload_n hx hb dX4_shipThen_50 rfl (lv_at hl 0 rfl) ?_
            refine lv_bipush (v := -2) hx hb dX4_shipThen_51 (by decide +kernel) ?_
            obtain ⟨a_17, ha_17, hf⟩ := bd_e hf
            refine Ct.callV (As := [.int (-2 : Int32)]) (rest := []) (st1 := [.int a_17.1]) (c_X4_refused l D cI A n t k g w z q (-2 : Int32) a_17 ha_17) hx hb hml hown hts (cwV 1 hts gX4_shipThen_X4_refused rfl rfl rfl hd_X4_refused ⟨Nat.le_of_ble_eq_true rfl, Nat.le_of_ble_eq_true rfl⟩) (va_recv hK hP (ci := 4) (q0 := 0) rfl cX_at0) (Ln.id rfl) hA hK hP hD hS rfl hl.1 rfl rfl (Nat.le_of_ble_eq_true rfl) dX4_shipThen_53 (fun H locs hP hD hS => ?_)
            replace hP : va_P D vwCl (cX cI A n t k g w z a_17.2) H := hP
            replace hD : va_D AA (cX cI A n t k g w z a_17.2) := hD
            exact hend (a_17.1, t, a_17.2) H locs _ _ hf hP hS dX4_shipThen_56
      · replace hf := if_f c_4 hf
        refine lv_aload_n hx hb dX4_shipThen_34 rfl (lv_at hl 0 rfl) ?_
        refine lv_bipush (v := -6) hx hb dX4_shipThen_35 (by decide +kernel) ?_
        obtain ⟨a_18, ha_18, hf⟩ := bd_e hf
        refine Ct.callV (As := [.int (-6 : Int32)]) (rest := []) (st1 := [.int a_18.1]) (c_X4_refused l D cI A n t k g w z q (-6 : Int32) a_18 ha_18) hx hb hml hown hts (cwV 1 hts gX4_shipThen_X4_refused rfl rfl rfl hd_X4_refused ⟨Nat.le_of_ble_eq_true rfl, Nat.le_of_ble_eq_true rfl⟩) (va_recv hK hP (ci := 4) (q0 := 0) rfl cX_at0) (Ln.id rfl) hA hK hP hD hS rfl hl.1 rfl rfl (Nat.le_of_ble_eq_true rfl) dX4_shipThen_37 (fun H locs hP hD hS => ?_)
        replace hP : va_P D vwCl (cX cI A n t k g w z a_18.2) H := hP
        replace hD : va_D AA (cX cI A n t k g w z a_18.2) := hD
        exact hend (a_18.1, t, a_18.2) H locs _ _ hf hP hS dX4_shipThen_40
    · replace hf := if_f c_3 hf
      refine lv_aload_n hx hb dX4_shipThen_21 rfl (lv_at hl 0 rfl) ?_
      refine lv_bipush (v := -4) hx hb dX4_shipThen_22 (by decide +kernel) ?_
      obtain ⟨a_19, ha_19, hf⟩ := bd_e hf
      refine Ct.callV (As := [.int (-4 : Int32)]) (rest := []) (st1 := [.int a_19.1]) (c_X4_refused l D cI A n t k g w z q (-4 : Int32) a_19 ha_19) hx hb hml hown hts (cwV 1 hts gX4_shipThen_X4_refused rfl rfl rfl hd_X4_refused ⟨Nat.le_of_ble_eq_true rfl, Nat.le_of_ble_eq_true rfl⟩) (va_recv hK hP (ci := 4) (q0 := 0) rfl cX_at0) (Ln.id rfl) hA hK hP hD hS rfl hl.1 rfl rfl (Nat.le_of_ble_eq_true rfl) dX4_shipThen_24 (fun H locs hP hD hS => ?_)
      replace hP : va_P D vwCl (cX cI A n t k g w z a_19.2) H := hP
      replace hD : va_D AA (cX cI A n t k g w z a_19.2) := hD
      exact hend (a_19.1, t, a_19.2) H locs _ _ hf hP hS dX4_shipThen_27
  · replace hf := if_t c_2 hf
    refine lv_aload_n hx hb dX4_shipThen_11 rfl (lv_at hl 0 rfl) ?_
    refine lv_iconst (v := -1) hx hb dX4_shipThen_12 (by decide) ?_
    obtain ⟨a_20, ha_20, hf⟩ := bd_e hf
    refine Ct.callV (As := [.int (-1 : Int32)]) (rest := []) (st1 := [.int a_20.1]) (c_X4_refused l D cI A n t k g w z q (-1 : Int32) a_20 ha_20) hx hb hml hown hts (cwV 1 hts gX4_shipThen_X4_refused rfl rfl rfl hd_X4_refused ⟨Nat.le_of_ble_eq_true rfl, Nat.le_of_ble_eq_true rfl⟩) (va_recv hK hP (ci := 4) (q0 := 0) rfl cX_at0) (Ln.id rfl) hA hK hP hD hS rfl hl.1 rfl rfl (Nat.le_of_ble_eq_true rfl) dX4_shipThen_13 (fun H locs hP hD hS => ?_)
    replace hP : va_P D vwCl (cX cI A n t k g w z a_20.2) H := hP
    replace hD : va_D AA (cX cI A n t k g w z a_20.2) := hD
    exact hend (a_20.1, t, a_20.2) H locs _ _ hf hP hS dX4_shipThen_16

def rm_X4_sinsThen : Room := { frames := 3, cells := 0, slots := 0, locals := 64 }
theorem hd_X4_sinsThen : yX4_sinsThen.cls = RX4 ∧ yX4_sinsThen.cls ≠ "java/lang/invoke/MethodHandle" ∧ yX4_sinsThen.cls ≠ "java/lang/invoke/VarHandle" ∧ (parseMethodDescriptor yX4_sinsThen.desc).map (fun d => d.parameters.length) = some 2 := by decide +kernel
set_option maxRecDepth 100000 in
set_option maxHeartbeats 4000000 in
theorem c_X4_sinsThen (l : Launch) (D : va_G) (cI : ClassId) (A : Nat → Nat) (n : St) (t : St) (k : St) (g : St) (w : St) (z : St) (q : St) (p1 : Int32) (p2 : Int32) (r : Int32 × St × St) (hf : f_X4_sinsThen n t k g w z q p1 p2 = some r) : Ct l yX4_sinsThen wsX4_sinsThen rm_X4_sinsThen D cI (cX cI A n t k g w z q) (cX cI A n r.2.1 k g w z r.2.2) [.ref (A 0), .int p1, .int p2] (some (.int r.1)) := by
  unfold f_X4_sinsThen at hf
  refine Ct.ofI (cc := cX4_sinsThen) (maxL := 3) (by decide +kernel) rfl (Nat.le_of_ble_eq_true rfl) ?_
  intro p e s m args below meth c AA Q H locs ls hx hb hml hown hts hA hK hP hD hS hl hend0
  have hend : ∀ (r1 : Int32 × St × St) (H : Heap) (locs : List Loc) (pc : Nat) (ls : Array Slot), some r1 = some r → va_P D vwCl (cX cI A n r1.2.1 k g w z r1.2.2) H → va_S AA s.heap H locs → decode cX4_sinsThen pc = .ok (.ireturn, 1) → W p l e rm_X4_sinsThen s m args below meth c H locs 0 0 Q (F0 m pc ls [.int r1.1]) := by
    intro r1 H locs pc ls e1 hP hS hd; cases e1; exact hend0 H locs pc ls hP hS hd
  clear hend0
  have hw0 : ∀ w ∈ wsX00, w ∈ wsX4_sinsThen := by decide +kernel
  have hw4 : ∀ w ∈ wsX40, w ∈ wsX4_sinsThen := by decide +kernel
  have k10 := hts (.fieldLink RX4 10 "AnchorsForConfession" "now" "LAnchorsForConfession$Harbour;") (by decide +kernel)
  have k16 := hts (.fieldLink RX4 16 "AnchorsForConfession" "thought" "LAnchorsForConfession$Harbour;") (by decide +kernel)
  have k89 := hts (.fieldLink RX4 89 "AnchorsForConfession$Harbour" "sinsOf" "[I") (by decide +kernel)
  replace hl : lv_has ls 3 [(0, .ref (A 0)), (1, .int p1), (2, .int p2)] := hl
  refine lv_aload_n hx hb dX4_sinsThen_0 rfl (lv_at hl 0 rfl) ?_
  refine va_get (D := D) (ci := 4) (v := .ref (A 1)) (C := RX4) (T := TX4) (N := 8) hx hb hts hw4 hown hK hP 0 cX_at0 rfl 0 (by decide) k10 (fun _ h9 => h9) rfl dX4_sinsThen_1 ?_
  refine lv_iload_n hx hb dX4_sinsThen_4 rfl (lv_at hl 1 rfl) ?_
  obtain ⟨a_1, ha_1, hf⟩ := bd_e hf
  refine Ct.callV (As := [.int p1]) (rest := []) (st1 := [.int a_1]) (c_X0_hasMan l D cI (fun j => A (1 + j)) n p1 a_1 ha_1) hx hb hml hown hts (cwV 1 hts gX4_sinsThen_X0_hasMan rfl rfl rfl hd_X0_hasMan ⟨Nat.le_of_ble_eq_true rfl, Nat.le_of_ble_eq_true rfl⟩) (va_recv hK hP (ci := 0) (q0 := 1) rfl cX_at1) ln_X_H_n hA hK hP hD hS rfl hl.1 rfl rfl (Nat.le_of_ble_eq_true rfl) dX4_sinsThen_5 (fun H locs hP hD hS => ?_)
  refine lv_if_ne (tgt := 17) hx hb dX4_sinsThen_8 (by decide) (fun c_2 => ?_) (fun c_2 => ?_)
  · replace hf := if_f c_2 hf
    refine lv_iload_n hx hb dX4_sinsThen_17 rfl (lv_at hl 2 rfl) ?_
    refine lv_if_ge (tgt := 28) hx hb dX4_sinsThen_18 (by decide) (fun c_3 => ?_) (fun c_3 => ?_)
    · replace hf := if_t c_3 hf
      refine lv_iload_n hx hb dX4_sinsThen_28 rfl (lv_at hl 2 rfl) ?_
      refine lv_bipush (v := 60) hx hb dX4_sinsThen_29 (by decide +kernel) ?_
      refine lv_icmp_le (tgt := 41) hx hb dX4_sinsThen_31 (by decide) (fun c_4 => ?_) (fun c_4 => ?_)
      · replace hf := if_t c_4 hf
        refine lv_aload_n hx hb dX4_sinsThen_41 rfl (lv_at hl 0 rfl) ?_
        refine va_get (D := D) (ci := 4) (v := .ref (A 10)) (C := RX4) (T := TX4) (N := 8) hx hb hts hw4 hown hK hP 0 cX_at0 rfl 1 (by decide) k16 (fun _ h9 => h9) rfl dX4_sinsThen_42 ?_
        refine lv_aload_n hx hb dX4_sinsThen_45 rfl (lv_at hl 0 rfl) ?_
        refine va_get (D := D) (ci := 4) (v := .ref (A 1)) (C := RX4) (T := TX4) (N := 8) hx hb hts hw4 hown hK hP 0 cX_at0 rfl 0 (by decide) k10 (fun _ h9 => h9) rfl dX4_sinsThen_46 ?_
        obtain ⟨a_5, ha_5, hf⟩ := bd_e hf
        refine Ct.callV (As := [.ref (A 1)]) (rest := []) (st1 := []) (c_X0_copyFrom l D cI (fun j => A (10 + j)) (fun j => A (1 + j)) t n a_5 ha_5) hx hb hml hown hts (cwV 1 hts gX4_sinsThen_X0_copyFrom rfl rfl rfl hd_X0_copyFrom ⟨Nat.le_of_ble_eq_true rfl, Nat.le_of_ble_eq_true rfl⟩) (va_recv hK hP (ci := 0) (q0 := 10) rfl cX_at10) ln_X_HH_tn hA hK hP hD hS rfl hl.1 rfl rfl (Nat.le_of_ble_eq_true rfl) dX4_sinsThen_49 (fun H locs hP hD hS => ?_)
        replace hP : va_P D vwCl (cX cI A n a_5 k g w z q) H := hP
        replace hD : va_D AA (cX cI A n a_5 k g w z q) := hD
        refine lv_aload_n hx hb dX4_sinsThen_52 rfl (lv_at hl 0 rfl) ?_
        refine va_get (D := D) (ci := 4) (v := .ref (A 10)) (C := RX4) (T := TX4) (N := 8) hx hb hts hw4 hown hK hP 0 cX_at0 rfl 1 (by decide) k16 (fun _ h9 => h9) rfl dX4_sinsThen_53 ?_
        refine lv_iload_n hx hb dX4_sinsThen_56 rfl (lv_at hl 2 rfl) ?_
        obtain ⟨a_6, ha_6, hf⟩ := bd_e hf
        refine Ct.callV (As := [.int p2]) (rest := []) (st1 := []) (c_X0_passTides l D cI (fun j => A (10 + j)) a_5 p2 a_6 ha_6) hx hb hml hown hts (cwV 1 hts gX4_sinsThen_X0_passTides rfl rfl rfl hd_X0_passTides ⟨Nat.le_of_ble_eq_true rfl, Nat.le_of_ble_eq_true rfl⟩) (va_recv hK hP (ci := 0) (q0 := 10) rfl cX_at10) ln_X_H_t hA hK hP hD hS rfl hl.1 rfl rfl (Nat.le_of_ble_eq_true rfl) dX4_sinsThen_57 (fun H locs hP hD hS => ?_)
        replace hP : va_P D vwCl (cX cI A n a_6 k g w z q) H := hP
        replace hD : va_D AA (cX cI A n a_6 k g w z q) := hD
        refine lv_aload_n hx hb dX4_sinsThen_60 rfl (lv_at hl 0 rfl) ?_
        refine va_get (D := D) (ci := 4) (v := .ref (A 10)) (C := RX4) (T := TX4) (N := 8) hx hb hts hw4 hown hK hP 0 cX_at0 rfl 1 (by decide) k16 (fun _ h9 => h9) rfl dX4_sinsThen_61 ?_
        refine va_get (D := D) (ci := 0) (v := .ref (A 16)) (C := RX0) (T := TX0) (N := 12) hx hb hts hw0 hown hK hP 10 cX_at10 rfl 7 (by decide) k89 (fun _ h9 => h9) rfl dX4_sinsThen_64 ?_
        refine lv_iload_n hx hb dX4_sinsThen_67 rfl (lv_at hl 1 rfl) ?_
        obtain ⟨c_7, hf⟩ := gi_e hf
        refine va_iald hx hb hK hP 16 0 cX_at16 rfl c_7 dX4_sinsThen_68 ?_
        exact hend ((a_6 6 (p1).toNatClampNeg), a_6, q) H locs _ _ hf hP hS dX4_sinsThen_69
      · replace hf := if_f c_4 hf
        refine lv_aload_n hx hb dX4_sinsThen_34 rfl (lv_at hl 0 rfl) ?_
        refine lv_bipush (v := -6) hx hb dX4_sinsThen_35 (by decide +kernel) ?_
        obtain ⟨a_8, ha_8, hf⟩ := bd_e hf
        refine Ct.callV (As := [.int (-6 : Int32)]) (rest := []) (st1 := [.int a_8.1]) (c_X4_refused l D cI A n t k g w z q (-6 : Int32) a_8 ha_8) hx hb hml hown hts (cwV 1 hts gX4_sinsThen_X4_refused rfl rfl rfl hd_X4_refused ⟨Nat.le_of_ble_eq_true rfl, Nat.le_of_ble_eq_true rfl⟩) (va_recv hK hP (ci := 4) (q0 := 0) rfl cX_at0) (Ln.id rfl) hA hK hP hD hS rfl hl.1 rfl rfl (Nat.le_of_ble_eq_true rfl) dX4_sinsThen_37 (fun H locs hP hD hS => ?_)
        replace hP : va_P D vwCl (cX cI A n t k g w z a_8.2) H := hP
        replace hD : va_D AA (cX cI A n t k g w z a_8.2) := hD
        exact hend (a_8.1, t, a_8.2) H locs _ _ hf hP hS dX4_sinsThen_40
    · replace hf := if_f c_3 hf
      refine lv_aload_n hx hb dX4_sinsThen_21 rfl (lv_at hl 0 rfl) ?_
      refine lv_bipush (v := -4) hx hb dX4_sinsThen_22 (by decide +kernel) ?_
      obtain ⟨a_9, ha_9, hf⟩ := bd_e hf
      refine Ct.callV (As := [.int (-4 : Int32)]) (rest := []) (st1 := [.int a_9.1]) (c_X4_refused l D cI A n t k g w z q (-4 : Int32) a_9 ha_9) hx hb hml hown hts (cwV 1 hts gX4_sinsThen_X4_refused rfl rfl rfl hd_X4_refused ⟨Nat.le_of_ble_eq_true rfl, Nat.le_of_ble_eq_true rfl⟩) (va_recv hK hP (ci := 4) (q0 := 0) rfl cX_at0) (Ln.id rfl) hA hK hP hD hS rfl hl.1 rfl rfl (Nat.le_of_ble_eq_true rfl) dX4_sinsThen_24 (fun H locs hP hD hS => ?_)
      replace hP : va_P D vwCl (cX cI A n t k g w z a_9.2) H := hP
      replace hD : va_D AA (cX cI A n t k g w z a_9.2) := hD
      exact hend (a_9.1, t, a_9.2) H locs _ _ hf hP hS dX4_sinsThen_27
  · replace hf := if_t c_2 hf
    refine lv_aload_n hx hb dX4_sinsThen_11 rfl (lv_at hl 0 rfl) ?_
    refine lv_iconst (v := -1) hx hb dX4_sinsThen_12 (by decide) ?_
    obtain ⟨a_10, ha_10, hf⟩ := bd_e hf
    refine Ct.callV (As := [.int (-1 : Int32)]) (rest := []) (st1 := [.int a_10.1]) (c_X4_refused l D cI A n t k g w z q (-1 : Int32) a_10 ha_10) hx hb hml hown hts (cwV 1 hts gX4_sinsThen_X4_refused rfl rfl rfl hd_X4_refused ⟨Nat.le_of_ble_eq_true rfl, Nat.le_of_ble_eq_true rfl⟩) (va_recv hK hP (ci := 4) (q0 := 0) rfl cX_at0) (Ln.id rfl) hA hK hP hD hS rfl hl.1 rfl rfl (Nat.le_of_ble_eq_true rfl) dX4_sinsThen_13 (fun H locs hP hD hS => ?_)
    replace hP : va_P D vwCl (cX cI A n t k g w z a_10.2) H := hP
    replace hD : va_D AA (cX cI A n t k g w z a_10.2) := hD
    exact hend (a_10.1, t, a_10.2) H locs _ _ hf hP hS dX4_sinsThen_16

def rm_X4_fixture : Room := { frames := 4, cells := 0, slots := 0, locals := 88 }
theorem hd_X4_fixture : yX4_fixture.cls = RX4 ∧ yX4_fixture.cls ≠ "java/lang/invoke/MethodHandle" ∧ yX4_fixture.cls ≠ "java/lang/invoke/VarHandle" ∧ (parseMethodDescriptor yX4_fixture.desc).map (fun d => d.parameters.length) = some 0 := by decide +kernel
set_option maxRecDepth 100000 in
set_option maxHeartbeats 4000000 in
theorem c_X4_fixture (l : Launch) (D : va_G) (cI : ClassId) (A : Nat → Nat) (n : St) (t : St) (k : St) (g : St) (w : St) (z : St) (q : St) (r : Int32) (hf : f_X4_fixture n t k g w z q = some r) : Ct l yX4_fixture wsX4_fixture rm_X4_fixture D cI (cX cI A n t k g w z q) (cX cI A n t k g w z q) [.ref (A 0)] (some (.int r)) := by
  unfold f_X4_fixture at hf
  refine Ct.ofI (cc := cX4_fixture) (maxL := 3) (by decide +kernel) rfl (Nat.le_of_ble_eq_true rfl) ?_
  intro p e s m args below meth c AA Q H locs ls hx hb hml hown hts hA hK hP hD hS hl hend0
  have hend : ∀ (r1 : Int32) (H : Heap) (locs : List Loc) (pc : Nat) (ls : Array Slot), some r1 = some r → va_P D vwCl (cX cI A n t k g w z q) H → va_S AA s.heap H locs → decode cX4_fixture pc = .ok (.ireturn, 1) → W p l e rm_X4_fixture s m args below meth c H locs 0 0 Q (F0 m pc ls [.int r1]) := by
    intro r1 H locs pc ls e1 hP hS hd; cases e1; exact hend0 H locs pc ls hP hS hd
  clear hend0
  have hw0 : ∀ w ∈ wsX00, w ∈ wsX4_fixture := by decide +kernel
  have hw4 : ∀ w ∈ wsX40, w ∈ wsX4_fixture := by decide +kernel
  have k10 := hts (.fieldLink RX4 10 "AnchorsForConfession" "now" "LAnchorsForConfession$Harbour;") (by decide +kernel)
  have k136 := hts (.fieldLink RX4 136 "AnchorsForConfession$Harbour" "ships" "I") (by decide +kernel)
  replace hl : lv_has ls 3 [(0, .ref (A 0))] := hl
  refine lv_iconst (v := 0) hx hb dX4_fixture_0 (by decide) ?_
  refine lv_istore_n (lv' := [(1, .int (0 : Int32)), (0, .ref (A 0))]) hx hb dX4_fixture_1 rfl hl (by decide) rfl (fun ls hl => ?_)
  refine lv_iconst (v := 0) hx hb dX4_fixture_2 (by decide) ?_
  refine lv_istore_n (lv' := [(2, .int (0 : Int32)), (1, .int (0 : Int32)), (0, .ref (A 0))]) hx hb dX4_fixture_3 rfl hl (by decide) rfl (fun ls hl => ?_)
  refine lp_ind (P := fun (q4 : Int32 × Int32) => ∀ (H : Heap) (locs : List Loc) (ls : Array Slot), va_P D vwCl (cX cI A n t k g w z q) H → va_D AA (cX cI A n t k g w z q) → va_S AA s.heap H locs → lv_has ls 3 [(0, .ref (A 0)), (1, .int q4.1), (2, .int q4.2)] → W p l e rm_X4_fixture s m args below meth c H locs 0 0 Q (F0 m 4 ls [])) hf ?_ H locs ls hP hD hS (lv_sub hl [2, 1, 0] rfl)
  clear hf hP hD hS hl
  intro nx4 ih4 q4 hf H locs ls hP hD hS hl
  refine lv_iload_n hx hb dX4_fixture_4 rfl (lv_at hl 2 rfl) ?_
  refine lv_aload_n hx hb dX4_fixture_5 rfl (lv_at hl 0 rfl) ?_
  refine va_get (D := D) (ci := 4) (v := .ref (A 1)) (C := RX4) (T := TX4) (N := 8) hx hb hts hw4 hown hK hP 0 cX_at0 rfl 0 (by decide) k10 (fun _ h9 => h9) rfl dX4_fixture_6 ?_
  refine va_get (D := D) (ci := 0) (v := .int (n 16 0)) (C := RX0) (T := TX0) (N := 12) hx hb hts hw0 hown hK hP 1 cX_at1 rfl 0 (by decide) k136 (fun _ h9 => h9) rfl dX4_fixture_9 ?_
  refine lv_icmp_ge (tgt := 49) hx hb dX4_fixture_12 (by decide) (fun c_1 => ?_) (fun c_1 => ?_)
  · replace hf := if_t c_1 hf
    refine lv_iload_n hx hb dX4_fixture_49 rfl (lv_at hl 1 rfl) ?_
    exact hend q4.1 H locs _ _ hf hP hS dX4_fixture_50
  · replace hf := if_f c_1 hf
    refine lv_aload_n hx hb dX4_fixture_15 rfl (lv_at hl 0 rfl) ?_
    refine va_get (D := D) (ci := 4) (v := .ref (A 1)) (C := RX4) (T := TX4) (N := 8) hx hb hts hw4 hown hK hP 0 cX_at0 rfl 0 (by decide) k10 (fun _ h9 => h9) rfl dX4_fixture_16 ?_
    refine lv_iload_n hx hb dX4_fixture_19 rfl (lv_at hl 2 rfl) ?_
    obtain ⟨a_2, ha_2, hf⟩ := bd_e hf
    refine Ct.callV (As := [.int q4.2]) (rest := []) (st1 := [.int a_2]) (c_X0_isIn l D cI (fun j => A (1 + j)) n q4.2 a_2 ha_2) hx hb hml hown hts (cwV 1 hts gX4_fixture_X0_isIn rfl rfl rfl hd_X0_isIn ⟨Nat.le_of_ble_eq_true rfl, Nat.le_of_ble_eq_true rfl⟩) (va_recv hK hP (ci := 0) (q0 := 1) rfl cX_at1) ln_X_H_n hA hK hP hD hS rfl hl.1 rfl rfl (Nat.le_of_ble_eq_true rfl) dX4_fixture_20 (fun H locs hP hD hS => ?_)
    refine lv_if_eq (tgt := 43) hx hb dX4_fixture_23 (by decide) (fun c_3 => ?_) (fun c_3 => ?_)
    · replace hf := if_t c_3 hf
      obtain ⟨v_4, ev_4, hf⟩ := nq_e hf
      refine lv_iinc (v := v_4) (lv' := [(2, .int v_4), (0, .ref (A 0)), (1, .int q4.1)]) hx hb dX4_fixture_43 hl (k := 2) rfl (by rw [ev_4]; rfl) (by decide) rfl (fun ls hl => ?_)
      refine lv_goto (tgt := 4) hx hb dX4_fixture_46 (by decide) ?_
      exact ih4 (q4.1, v_4) hf H locs ls hP hD hS (lv_sub hl [1, 2, 0] rfl)
    · replace hf := if_f c_3 hf
      refine lv_aload_n hx hb dX4_fixture_26 rfl (lv_at hl 0 rfl) ?_
      refine va_get (D := D) (ci := 4) (v := .ref (A 1)) (C := RX4) (T := TX4) (N := 8) hx hb hts hw4 hown hK hP 0 cX_at0 rfl 0 (by decide) k10 (fun _ h9 => h9) rfl dX4_fixture_27 ?_
      refine lv_iload_n hx hb dX4_fixture_30 rfl (lv_at hl 2 rfl) ?_
      obtain ⟨a_5, ha_5, hf⟩ := bd_e hf
      refine Ct.callV (As := [.int q4.2]) (rest := []) (st1 := [.int a_5]) (c_X0_canRise l D cI (fun j => A (1 + j)) n q4.2 a_5 ha_5) hx hb hml hown hts (cwV 1 hts gX4_fixture_X0_canRise rfl rfl rfl hd_X0_canRise ⟨Nat.le_of_ble_eq_true rfl, Nat.le_of_ble_eq_true rfl⟩) (va_recv hK hP (ci := 0) (q0 := 1) rfl cX_at1) ln_X_H_n hA hK hP hD hS rfl hl.1 rfl rfl (Nat.le_of_ble_eq_true rfl) dX4_fixture_31 (fun H locs hP hD hS => ?_)
      refine lv_if_ne (tgt := 43) hx hb dX4_fixture_34 (by decide) (fun c_6 => ?_) (fun c_6 => ?_)
      · replace hf := if_f c_6 hf
        obtain ⟨v_7, ev_7, hf⟩ := nq_e hf
        refine lv_iinc (v := v_7) (lv' := [(2, .int v_7), (0, .ref (A 0)), (1, .int q4.1)]) hx hb dX4_fixture_43 hl (k := 2) rfl (by rw [ev_7]; rfl) (by decide) rfl (fun ls hl => ?_)
        refine lv_goto (tgt := 4) hx hb dX4_fixture_46 (by decide) ?_
        exact ih4 (q4.1, v_7) hf H locs ls hP hD hS (lv_sub hl [1, 2, 0] rfl)
      · replace hf := if_t c_6 hf
        refine lv_iload_n hx hb dX4_fixture_37 rfl (lv_at hl 1 rfl) ?_
        refine lv_iconst (v := 1) hx hb dX4_fixture_38 (by decide) ?_
        refine lv_iload_n hx hb dX4_fixture_39 rfl (lv_at hl 2 rfl) ?_
        refine lv_ishl hx hb dX4_fixture_40 ?_
        refine lv_ior hx hb dX4_fixture_41 ?_
        refine lv_topi (fun v_8 ev_8 => ?_)
        replace hf := nm_at ev_8 hf
        refine lv_istore_n (lv' := [(1, .int v_8), (0, .ref (A 0)), (2, .int q4.2)]) hx hb dX4_fixture_42 rfl hl (by decide) rfl (fun ls hl => ?_)
        obtain ⟨v_9, ev_9, hf⟩ := nq_e hf
        refine lv_iinc (v := v_9) (lv' := [(2, .int v_9), (1, .int v_8), (0, .ref (A 0))]) hx hb dX4_fixture_43 hl (k := 2) rfl (by rw [ev_9]; rfl) (by decide) rfl (fun ls hl => ?_)
        refine lv_goto (tgt := 4) hx hb dX4_fixture_46 (by decide) ?_
        exact ih4 (v_8, v_9) hf H locs ls hP hD hS (lv_sub hl [2, 1, 0] rfl)

def rm_X4_fewest : Room := { frames := 4, cells := 0, slots := 0, locals := 93 }
theorem hd_X4_fewest : yX4_fewest.cls = RX4 ∧ yX4_fewest.cls ≠ "java/lang/invoke/MethodHandle" ∧ yX4_fewest.cls ≠ "java/lang/invoke/VarHandle" ∧ (parseMethodDescriptor yX4_fewest.desc).map (fun d => d.parameters.length) = some 2 := by decide +kernel
set_option maxRecDepth 100000 in
set_option maxHeartbeats 4000000 in
theorem c_X4_fewest (l : Launch) (D : va_G) (cI : ClassId) (A : Nat → Nat) (n : St) (t : St) (k : St) (g : St) (w : St) (z : St) (q : St) (p1 : Int32) (p2 : Int32) (r : Int32 × St × St) (hf : f_X4_fewest n t k g w z q p1 p2 = some r) : Ct l yX4_fewest wsX4_fewest rm_X4_fewest D cI (cX cI A n t k g w z q) (cX cI A r.2.1 t k g w z r.2.2) [.ref (A 0), .int p1, .int p2] (some (.int r.1)) := by
  unfold f_X4_fewest at hf
  refine Ct.ofI (cc := cX4_fewest) (maxL := 4) (by decide +kernel) rfl (Nat.le_of_ble_eq_true rfl) ?_
  intro p e s m args below meth c AA Q H locs ls hx hb hml hown hts hA hK hP hD hS hl hend0
  have hend : ∀ (r1 : Int32 × St × St) (H : Heap) (locs : List Loc) (pc : Nat) (ls : Array Slot), some r1 = some r → va_P D vwCl (cX cI A r1.2.1 t k g w z r1.2.2) H → va_S AA s.heap H locs → decode cX4_fewest pc = .ok (.ireturn, 1) → W p l e rm_X4_fewest s m args below meth c H locs 0 0 Q (F0 m pc ls [.int r1.1]) := by
    intro r1 H locs pc ls e1 hP hS hd; cases e1; exact hend0 H locs pc ls hP hS hd
  clear hend0
  have hw4 : ∀ w ∈ wsX40, w ∈ wsX4_fewest := by decide +kernel
  have k10 := hts (.fieldLink RX4 10 "AnchorsForConfession" "now" "LAnchorsForConfession$Harbour;") (by decide +kernel)
  replace hl : lv_has ls 4 [(0, .ref (A 0)), (1, .int p1), (2, .int p2)] := hl
  refine lv_aload_n hx hb dX4_fewest_0 rfl (lv_at hl 0 rfl) ?_
  refine va_get (D := D) (ci := 4) (v := .ref (A 1)) (C := RX4) (T := TX4) (N := 8) hx hb hts hw4 hown hK hP 0 cX_at0 rfl 0 (by decide) k10 (fun _ h9 => h9) rfl dX4_fewest_1 ?_
  refine lv_iload_n hx hb dX4_fewest_4 rfl (lv_at hl 1 rfl) ?_
  obtain ⟨a_1, ha_1, hf⟩ := bd_e hf
  refine Ct.callV (As := [.int p1]) (rest := []) (st1 := [.int a_1]) (c_X0_hasShip l D cI (fun j => A (1 + j)) n p1 a_1 ha_1) hx hb hml hown hts (cwV 1 hts gX4_fewest_X0_hasShip rfl rfl rfl hd_X0_hasShip ⟨Nat.le_of_ble_eq_true rfl, Nat.le_of_ble_eq_true rfl⟩) (va_recv hK hP (ci := 0) (q0 := 1) rfl cX_at1) ln_X_H_n hA hK hP hD hS rfl hl.1 rfl rfl (Nat.le_of_ble_eq_true rfl) dX4_fewest_5 (fun H locs hP hD hS => ?_)
  refine lv_if_ne (tgt := 17) hx hb dX4_fewest_8 (by decide) (fun c_2 => ?_) (fun c_2 => ?_)
  · replace hf := if_f c_2 hf
    refine lv_iload_n hx hb dX4_fewest_17 rfl (lv_at hl 2 rfl) ?_
    refine lv_if_eq (tgt := 33) hx hb dX4_fewest_18 (by decide) (fun c_3 => ?_) (fun c_3 => ?_)
    · replace hf := if_t c_3 hf
      refine lv_aload_n hx hb dX4_fewest_33 rfl (lv_at hl 0 rfl) ?_
      refine va_get (D := D) (ci := 4) (v := .ref (A 1)) (C := RX4) (T := TX4) (N := 8) hx hb hts hw4 hown hK hP 0 cX_at0 rfl 0 (by decide) k10 (fun _ h9 => h9) rfl dX4_fewest_34 ?_
      refine lv_iload_n hx hb dX4_fewest_37 rfl (lv_at hl 1 rfl) ?_
      obtain ⟨a_4, ha_4, hf⟩ := bd_e hf
      refine Ct.callV (As := [.int p1]) (rest := []) (st1 := [.int a_4]) (c_X0_isIn l D cI (fun j => A (1 + j)) n p1 a_4 ha_4) hx hb hml hown hts (cwV 1 hts gX4_fewest_X0_isIn rfl rfl rfl hd_X0_isIn ⟨Nat.le_of_ble_eq_true rfl, Nat.le_of_ble_eq_true rfl⟩) (va_recv hK hP (ci := 0) (q0 := 1) rfl cX_at1) ln_X_H_n hA hK hP hD hS rfl hl.1 rfl rfl (Nat.le_of_ble_eq_true rfl) dX4_fewest_38 (fun H locs hP hD hS => ?_)
      refine lv_if_ne (tgt := 51) hx hb dX4_fewest_41 (by decide) (fun c_5 => ?_) (fun c_5 => ?_)
      · replace hf := if_f c_5 hf
        refine lv_aload_n hx hb dX4_fewest_51 rfl (lv_at hl 0 rfl) ?_
        refine va_get (D := D) (ci := 4) (v := .ref (A 1)) (C := RX4) (T := TX4) (N := 8) hx hb hts hw4 hown hK hP 0 cX_at0 rfl 0 (by decide) k10 (fun _ h9 => h9) rfl dX4_fewest_52 ?_
        refine lv_iload_n hx hb dX4_fewest_55 rfl (lv_at hl 1 rfl) ?_
        obtain ⟨a_6, ha_6, hf⟩ := bd_e hf
        refine Ct.callV (As := [.int p1]) (rest := []) (st1 := [.int a_6.1]) (c_X0_fewestWords l D cI (fun j => A (1 + j)) n p1 a_6 ha_6) hx hb hml hown hts (cwV 1 hts gX4_fewest_X0_fewestWords rfl rfl rfl hd_X0_fewestWords ⟨Nat.le_of_ble_eq_true rfl, Nat.le_of_ble_eq_true rfl⟩) (va_recv hK hP (ci := 0) (q0 := 1) rfl cX_at1) ln_X_H_n hA hK hP hD hS rfl hl.1 rfl rfl (Nat.le_of_ble_eq_true rfl) dX4_fewest_56 (fun H locs hP hD hS => ?_)
        replace hP : va_P D vwCl (cX cI A a_6.2 t k g w z q) H := hP
        replace hD : va_D AA (cX cI A a_6.2 t k g w z q) := hD
        refine lv_istore_n (lv' := [(3, .int a_6.1), (0, .ref (A 0)), (1, .int p1), (2, .int p2)]) hx hb dX4_fewest_59 rfl hl (by decide) rfl (fun ls hl => ?_)
        refine lv_iload_n hx hb dX4_fewest_60 rfl (lv_at hl 3 rfl) ?_
        refine lv_if_eq (tgt := 70) hx hb dX4_fewest_61 (by decide) (fun c_7 => ?_) (fun c_7 => ?_)
        · replace hf := if_t c_7 hf
          refine lv_iload_n hx hb dX4_fewest_70 rfl (lv_at hl 0 rfl) ?_
          refine lv_goto (tgt := 81) hx hb dX4_fewest_71 (by decide) ?_
          exact hend (a_6.1, a_6.2, q) H locs _ _ hf hP hS dX4_fewest_81
        · replace hf := if_f c_7 hf
          refine lv_iload_n hx hb dX4_fewest_64 rfl (lv_at hl 0 rfl) ?_
          refine lv_bipush (v := -9) hx hb dX4_fewest_65 (by decide +kernel) ?_
          refine lv_icmp_ne (tgt := 74) hx hb dX4_fewest_67 (by decide) (fun c_8 => ?_) (fun c_8 => ?_)
          · replace hf := if_f c_8 hf
            refine lv_aload_n hx hb dX4_fewest_74 rfl (lv_at hl 1 rfl) ?_
            refine va_get (D := D) (ci := 4) (v := .ref (A 1)) (C := RX4) (T := TX4) (N := 8) hx hb hts hw4 hown hK hP 0 cX_at0 rfl 0 (by decide) k10 (fun _ h9 => h9) rfl dX4_fewest_75 ?_
            obtain ⟨a_9, ha_9, hf⟩ := bd_e hf
            refine Ct.callV (As := []) (rest := []) (st1 := [.int a_9]) (c_X0_mostAsked l D cI (fun j => A (1 + j)) a_6.2 a_9 ha_9) hx hb hml hown hts (cwV 0 hts gX4_fewest_X0_mostAsked rfl rfl rfl hd_X0_mostAsked ⟨Nat.le_of_ble_eq_true rfl, Nat.le_of_ble_eq_true rfl⟩) (va_recv hK hP (ci := 0) (q0 := 1) rfl cX_at1) ln_X_H_n hA hK hP hD hS rfl hl.1 rfl rfl (Nat.le_of_ble_eq_true rfl) dX4_fewest_78 (fun H locs hP hD hS => ?_)
            exact hend (a_9, a_6.2, q) H locs _ _ hf hP hS dX4_fewest_81
          · replace hf := if_t c_8 hf
            refine lv_iload_n hx hb dX4_fewest_70 rfl (lv_at hl 0 rfl) ?_
            refine lv_goto (tgt := 81) hx hb dX4_fewest_71 (by decide) ?_
            exact hend (a_6.1, a_6.2, q) H locs _ _ hf hP hS dX4_fewest_81
      · replace hf := if_t c_5 hf
        refine lv_aload_n hx hb dX4_fewest_44 rfl (lv_at hl 0 rfl) ?_
        refine lv_bipush (v := -3) hx hb dX4_fewest_45 (by decide +kernel) ?_
        obtain ⟨a_10, ha_10, hf⟩ := bd_e hf
        refine Ct.callV (As := [.int (-3 : Int32)]) (rest := []) (st1 := [.int a_10.1]) (c_X4_refused l D cI A n t k g w z q (-3 : Int32) a_10 ha_10) hx hb hml hown hts (cwV 1 hts gX4_fewest_X4_refused rfl rfl rfl hd_X4_refused ⟨Nat.le_of_ble_eq_true rfl, Nat.le_of_ble_eq_true rfl⟩) (va_recv hK hP (ci := 4) (q0 := 0) rfl cX_at0) (Ln.id rfl) hA hK hP hD hS rfl hl.1 rfl rfl (Nat.le_of_ble_eq_true rfl) dX4_fewest_47 (fun H locs hP hD hS => ?_)
        replace hP : va_P D vwCl (cX cI A n t k g w z a_10.2) H := hP
        replace hD : va_D AA (cX cI A n t k g w z a_10.2) := hD
        exact hend (a_10.1, n, a_10.2) H locs _ _ hf hP hS dX4_fewest_50
    · replace hf := if_f c_3 hf
      refine lv_iload_n hx hb dX4_fewest_21 rfl (lv_at hl 2 rfl) ?_
      refine lv_iconst (v := 1) hx hb dX4_fewest_22 (by decide) ?_
      refine lv_icmp_eq (tgt := 33) hx hb dX4_fewest_23 (by decide) (fun c_11 => ?_) (fun c_11 => ?_)
      · replace hf := if_t c_11 hf
        refine lv_aload_n hx hb dX4_fewest_33 rfl (lv_at hl 0 rfl) ?_
        refine va_get (D := D) (ci := 4) (v := .ref (A 1)) (C := RX4) (T := TX4) (N := 8) hx hb hts hw4 hown hK hP 0 cX_at0 rfl 0 (by decide) k10 (fun _ h9 => h9) rfl dX4_fewest_34 ?_
        refine lv_iload_n hx hb dX4_fewest_37 rfl (lv_at hl 1 rfl) ?_
        obtain ⟨a_12, ha_12, hf⟩ := bd_e hf
        refine Ct.callV (As := [.int p1]) (rest := []) (st1 := [.int a_12]) (c_X0_isIn l D cI (fun j => A (1 + j)) n p1 a_12 ha_12) hx hb hml hown hts (cwV 1 hts gX4_fewest_X0_isIn rfl rfl rfl hd_X0_isIn ⟨Nat.le_of_ble_eq_true rfl, Nat.le_of_ble_eq_true rfl⟩) (va_recv hK hP (ci := 0) (q0 := 1) rfl cX_at1) ln_X_H_n hA hK hP hD hS rfl hl.1 rfl rfl (Nat.le_of_ble_eq_true rfl) dX4_fewest_38 (fun H locs hP hD hS => ?_)
        refine lv_if_ne (tgt := 51) hx hb dX4_fewest_41 (by decide) (fun c_13 => ?_) (fun c_13 => ?_)
        · replace hf := if_f c_13 hf
          refine lv_aload_n hx hb dX4_fewest_51 rfl (lv_at hl 0 rfl) ?_
          refine va_get (D := D) (ci := 4) (v := .ref (A 1)) (C := RX4) (T := TX4) (N := 8) hx hb hts hw4 hown hK hP 0 cX_at0 rfl 0 (by decide) k10 (fun _ h9 => h9) rfl dX4_fewest_52 ?_
          refine lv_iload_n hx hb dX4_fewest_55 rfl (lv_at hl 1 rfl) ?_
          obtain ⟨a_14, ha_14, hf⟩ := bd_e hf
          refine Ct.callV (As := [.int p1]) (rest := []) (st1 := [.int a_14.1]) (c_X0_fewestWords l D cI (fun j => A (1 + j)) n p1 a_14 ha_14) hx hb hml hown hts (cwV 1 hts gX4_fewest_X0_fewestWords rfl rfl rfl hd_X0_fewestWords ⟨Nat.le_of_ble_eq_true rfl, Nat.le_of_ble_eq_true rfl⟩) (va_recv hK hP (ci := 0) (q0 := 1) rfl cX_at1) ln_X_H_n hA hK hP hD hS rfl hl.1 rfl rfl (Nat.le_of_ble_eq_true rfl) dX4_fewest_56 (fun H locs hP hD hS => ?_)
          replace hP : va_P D vwCl (cX cI A a_14.2 t k g w z q) H := hP
          replace hD : va_D AA (cX cI A a_14.2 t k g w z q) := hD
          refine lv_istore_n (lv' := [(3, .int a_14.1), (0, .ref (A 0)), (1, .int p1), (2, .int p2)]) hx hb dX4_fewest_59 rfl hl (by decide) rfl (fun ls hl => ?_)
          refine lv_iload_n hx hb dX4_fewest_60 rfl (lv_at hl 3 rfl) ?_
          refine lv_if_eq (tgt := 70) hx hb dX4_fewest_61 (by decide) (fun c_15 => ?_) (fun c_15 => ?_)
          · replace hf := if_t c_15 hf
            refine lv_iload_n hx hb dX4_fewest_70 rfl (lv_at hl 0 rfl) ?_
            refine lv_goto (tgt := 81) hx hb dX4_fewest_71 (by decide) ?_
            exact hend (a_14.1, a_14.2, q) H locs _ _ hf hP hS dX4_fewest_81
          · replace hf := if_f c_15 hf
            refine lv_iload_n hx hb dX4_fewest_64 rfl (lv_at hl 0 rfl) ?_
            refine lv_bipush (v := -9) hx hb dX4_fewest_65 (by decide +kernel) ?_
            refine lv_icmp_ne (tgt := 74) hx hb dX4_fewest_67 (by decide) (fun c_16 => ?_) (fun c_16 => ?_)
            · replace hf := if_f c_16 hf
              refine lv_aload_n hx hb dX4_fewest_74 rfl (lv_at hl 1 rfl) ?_
              refine va_get (D := D) (ci := 4) (v := .ref (A 1)) (C := RX4) (T := TX4) (N := 8) hx hb hts hw4 hown hK hP 0 cX_at0 rfl 0 (by decide) k10 (fun _ h9 => h9) rfl dX4_fewest_75 ?_
              obtain ⟨a_17, ha_17, hf⟩ := bd_e hf
              refine Ct.callV (As := []) (rest := []) (st1 := [.int a_17]) (c_X0_mostAsked l D cI (fun j => A (1 + j)) a_14.2 a_17 ha_17) hx hb hml hown hts (cwV 0 hts gX4_fewest_X0_mostAsked rfl rfl rfl hd_X0_mostAsked ⟨Nat.le_of_ble_eq_true rfl, Nat.le_of_ble_eq_true rfl⟩) (va_recv hK hP (ci := 0) (q0 := 1) rfl cX_at1) ln_X_H_n hA hK hP hD hS rfl hl.1 rfl rfl (Nat.le_of_ble_eq_true rfl) dX4_fewest_78 (fun H locs hP hD hS => ?_)
              exact hend (a_17, a_14.2, q) H locs _ _ hf hP hS dX4_fewest_81
            · replace hf := if_t c_16 hf
              refine lv_iload_n hx hb dX4_fewest_70 rfl (lv_at hl 0 rfl) ?_
              refine lv_goto (tgt := 81) hx hb dX4_fewest_71 (by decide) ?_
              exact hend (a_14.1, a_14.2, q) H locs _ _ hf hP hS dX4_fewest_81
        · replace hf := if_t c_13 hf
          refine lv_aload_n hx hb dX4_fewest_44 rfl (lv_at hl 0 rfl) ?_
          refine lv_bipush (v := -3) hx hb dX4_fewest_45 (by decide +kernel) ?_
          obtain ⟨a_18, ha_18, hf⟩ := bd_e hf
          refine Ct.callV (As := [.int (-3 : Int32)]) (rest := []) (st1 := [.int a_18.1]) (c_X4_refused l D cI A n t k g w z q (-3 : Int32) a_18 ha_18) hx hb hml hown hts (cwV 1 hts gX4_fewest_X4_refused rfl rfl rfl hd_X4_refused ⟨Nat.le_of_ble_eq_true rfl, Nat.le_of_ble_eq_true rfl⟩) (va_recv hK hP (ci := 4) (q0 := 0) rfl cX_at0) (Ln.id rfl) hA hK hP hD hS rfl hl.1 rfl rfl (Nat.le_of_ble_eq_true rfl) dX4_fewest_47 (fun H locs hP hD hS => ?_)
          replace hP : va_P D vwCl (cX cI A n t k g w z a_18.2) H := hP
          replace hD : va_D AA (cX cI A n t k g w z a_18.2) := hD
          exact hend (a_18.1, n, a_18.2) H locs _ _ hf hP hS dX4_fewest_50
      · replace hf := if_f c_11 hf
        refine lv_aload_n hx hb dX4_fewest_26 rfl (lv_at hl 0 rfl) ?_
        refine lv_bipush (v := -2) hx hb dX4_fewest_27 (by decide +kernel) ?_
        obtain ⟨a_19, ha_19, hf⟩ := bd_e hf
        refine Ct.callV (As := [.int (-2 : Int32)]) (rest := []) (st1 := [.int a_19.1]) (c_X4_refused l D cI A n t k g w z q (-2 : Int32) a_19 ha_19) hx hb hml hown hts (cwV 1 hts gX4_fewest_X4_refused rfl rfl rfl hd_X4_refused ⟨Nat.le_of_ble_eq_true rfl, Nat.le_of_ble_eq_true rfl⟩) (va_recv hK hP (ci := 4) (q0 := 0) rfl cX_at0) (Ln.id rfl) hA hK hP hD hS rfl hl.1 rfl rfl (Nat.le_of_ble_eq_true rfl) dX4_fewest_29 (fun H locs hP hD hS => ?_)
        replace hP : va_P D vwCl (cX cI A n t k g w z a_19.2) H := hP
        replace hD : va_D AA (cX cI A n t k g w z a_19.2) := hD
        exact hend (a_19.1, n, a_19.2) H locs _ _ hf hP hS dX4_fewest_32
  · replace hf := if_t c_2 hf
    refine lv_aload_n hx hb dX4_fewest_11 rfl (lv_at hl 0 rfl) ?_
    refine lv_iconst (v := -1) hx hb dX4_fewest_12 (by decide) ?_
    obtain ⟨a_20, ha_20, hf⟩ := bd_e hf
    refine Ct.callV (As := [.int (-1 : Int32)]) (rest := []) (st1 := [.int a_20.1]) (c_X4_refused l D cI A n t k g w z q (-1 : Int32) a_20 ha_20) hx hb hml hown hts (cwV 1 hts gX4_fewest_X4_refused rfl rfl rfl hd_X4_refused ⟨Nat.le_of_ble_eq_true rfl, Nat.le_of_ble_eq_true rfl⟩) (va_recv hK hP (ci := 4) (q0 := 0) rfl cX_at0) (Ln.id rfl) hA hK hP hD hS rfl hl.1 rfl rfl (Nat.le_of_ble_eq_true rfl) dX4_fewest_13 (fun H locs hP hD hS => ?_)
    replace hP : va_P D vwCl (cX cI A n t k g w z a_20.2) H := hP
    replace hD : va_D AA (cX cI A n t k g w z a_20.2) := hD
    exact hend (a_20.1, n, a_20.2) H locs _ _ hf hP hS dX4_fewest_16

def rm_X4_when : Room := { frames := 4, cells := 0, slots := 0, locals := 93 }
theorem hd_X4_when : yX4_when.cls = RX4 ∧ yX4_when.cls ≠ "java/lang/invoke/MethodHandle" ∧ yX4_when.cls ≠ "java/lang/invoke/VarHandle" ∧ (parseMethodDescriptor yX4_when.desc).map (fun d => d.parameters.length) = some 2 := by decide +kernel
set_option maxRecDepth 100000 in
set_option maxHeartbeats 4000000 in
theorem c_X4_when (l : Launch) (D : va_G) (cI : ClassId) (A : Nat → Nat) (n : St) (t : St) (k : St) (g : St) (w : St) (z : St) (q : St) (p1 : Int32) (p2 : Int32) (r : Int32 × St × St) (hf : f_X4_when n t k g w z q p1 p2 = some r) : Ct l yX4_when wsX4_when rm_X4_when D cI (cX cI A n t k g w z q) (cX cI A n r.2.1 k g w z r.2.2) [.ref (A 0), .int p1, .int p2] (some (.int r.1)) := by
  unfold f_X4_when at hf
  refine Ct.ofI (cc := cX4_when) (maxL := 5) (by decide +kernel) rfl (Nat.le_of_ble_eq_true rfl) ?_
  intro p e s m args below meth c AA Q H locs ls hx hb hml hown hts hA hK hP hD hS hl hend0
  have hend : ∀ (r1 : Int32 × St × St) (H : Heap) (locs : List Loc) (pc : Nat) (ls : Array Slot), some r1 = some r → va_P D vwCl (cX cI A n r1.2.1 k g w z r1.2.2) H → va_S AA s.heap H locs → decode cX4_when pc = .ok (.ireturn, 1) → W p l e rm_X4_when s m args below meth c H locs 0 0 Q (F0 m pc ls [.int r1.1]) := by
    intro r1 H locs pc ls e1 hP hS hd; cases e1; exact hend0 H locs pc ls hP hS hd
  clear hend0
  have hw4 : ∀ w ∈ wsX40, w ∈ wsX4_when := by decide +kernel
  have k10 := hts (.fieldLink RX4 10 "AnchorsForConfession" "now" "LAnchorsForConfession$Harbour;") (by decide +kernel)
  have k16 := hts (.fieldLink RX4 16 "AnchorsForConfession" "thought" "LAnchorsForConfession$Harbour;") (by decide +kernel)
  replace hl : lv_has ls 5 [(0, .ref (A 0)), (1, .int p1), (2, .int p2)] := hl
  refine lv_aload_n hx hb dX4_when_0 rfl (lv_at hl 0 rfl) ?_
  refine va_get (D := D) (ci := 4) (v := .ref (A 1)) (C := RX4) (T := TX4) (N := 8) hx hb hts hw4 hown hK hP 0 cX_at0 rfl 0 (by decide) k10 (fun _ h9 => h9) rfl dX4_when_1 ?_
  refine lv_iload_n hx hb dX4_when_4 rfl (lv_at hl 1 rfl) ?_
  obtain ⟨a_1, ha_1, hf⟩ := bd_e hf
  refine Ct.callV (As := [.int p1]) (rest := []) (st1 := [.int a_1]) (c_X0_hasShip l D cI (fun j => A (1 + j)) n p1 a_1 ha_1) hx hb hml hown hts (cwV 1 hts gX4_when_X0_hasShip rfl rfl rfl hd_X0_hasShip ⟨Nat.le_of_ble_eq_true rfl, Nat.le_of_ble_eq_true rfl⟩) (va_recv hK hP (ci := 0) (q0 := 1) rfl cX_at1) ln_X_H_n hA hK hP hD hS rfl hl.1 rfl rfl (Nat.le_of_ble_eq_true rfl) dX4_when_5 (fun H locs hP hD hS => ?_)
  refine lv_if_ne (tgt := 17) hx hb dX4_when_8 (by decide) (fun c_2 => ?_) (fun c_2 => ?_)
  · replace hf := if_f c_2 hf
    refine lv_iload_n hx hb dX4_when_17 rfl (lv_at hl 2 rfl) ?_
    refine lv_if_ge (tgt := 28) hx hb dX4_when_18 (by decide) (fun c_3 => ?_) (fun c_3 => ?_)
    · replace hf := if_t c_3 hf
      refine lv_iload_n hx hb dX4_when_28 rfl (lv_at hl 2 rfl) ?_
      refine lv_bipush (v := 20) hx hb dX4_when_29 (by decide +kernel) ?_
      refine lv_icmp_le (tgt := 41) hx hb dX4_when_31 (by decide) (fun c_4 => ?_) (fun c_4 => ?_)
      · replace hf := if_t c_4 hf
        refine lv_aload_n hx hb dX4_when_41 rfl (lv_at hl 0 rfl) ?_
        refine va_get (D := D) (ci := 4) (v := .ref (A 10)) (C := RX4) (T := TX4) (N := 8) hx hb hts hw4 hown hK hP 0 cX_at0 rfl 1 (by decide) k16 (fun _ h9 => h9) rfl dX4_when_42 ?_
        refine lv_aload_n hx hb dX4_when_45 rfl (lv_at hl 0 rfl) ?_
        refine va_get (D := D) (ci := 4) (v := .ref (A 1)) (C := RX4) (T := TX4) (N := 8) hx hb hts hw4 hown hK hP 0 cX_at0 rfl 0 (by decide) k10 (fun _ h9 => h9) rfl dX4_when_46 ?_
        obtain ⟨a_5, ha_5, hf⟩ := bd_e hf
        refine Ct.callV (As := [.ref (A 1)]) (rest := []) (st1 := []) (c_X0_copyFrom l D cI (fun j => A (10 + j)) (fun j => A (1 + j)) t n a_5 ha_5) hx hb hml hown hts (cwV 1 hts gX4_when_X0_copyFrom rfl rfl rfl hd_X0_copyFrom ⟨Nat.le_of_ble_eq_true rfl, Nat.le_of_ble_eq_true rfl⟩) (va_recv hK hP (ci := 0) (q0 := 10) rfl cX_at10) ln_X_HH_tn hA hK hP hD hS rfl hl.1 rfl rfl (Nat.le_of_ble_eq_true rfl) dX4_when_49 (fun H locs hP hD hS => ?_)
        replace hP : va_P D vwCl (cX cI A n a_5 k g w z q) H := hP
        replace hD : va_D AA (cX cI A n a_5 k g w z q) := hD
        refine lv_iconst (v := 0) hx hb dX4_when_52 (by decide) ?_
        refine lv_istore_n (lv' := [(3, .int (0 : Int32)), (0, .ref (A 0)), (1, .int p1), (2, .int p2)]) hx hb dX4_when_53 rfl hl (by decide) rfl (fun ls hl => ?_)
        refine lp_ind (P := fun (q54 : Int32 × St) => ∀ (H : Heap) (locs : List Loc) (ls : Array Slot), va_P D vwCl (cX cI A n q54.2 k g w z q) H → va_D AA (cX cI A n q54.2 k g w z q) → va_S AA s.heap H locs → lv_has ls 5 [(0, .ref (A 0)), (1, .int p1), (2, .int p2), (3, .int q54.1)] → W p l e rm_X4_when s m args below meth c H locs 0 0 Q (F0 m 54 ls [])) hf ?_ H locs ls hP hD hS (lv_sub hl [1, 2, 3, 0] rfl)
        clear hf hP hD hS hl
        intro nx54 ih54 q54 hf H locs ls hP hD hS hl
        refine lv_iload_n hx hb dX4_when_54 rfl (lv_at hl 3 rfl) ?_
        refine lv_bipush (v := 60) hx hb dX4_when_55 (by decide +kernel) ?_
        refine lv_icmp_gt (tgt := 115) hx hb dX4_when_57 (by decide) (fun c_6 => ?_) (fun c_6 => ?_)
        · replace hf := if_t c_6 hf
          refine lv_bipush (v := -9) hx hb dX4_when_115 (by decide +kernel) ?_
          exact hend ((-9 : Int32), q54.2, q) H locs _ _ hf hP hS dX4_when_117
        · replace hf := if_f c_6 hf
          refine lv_aload_n hx hb dX4_when_60 rfl (lv_at hl 0 rfl) ?_
          refine va_get (D := D) (ci := 4) (v := .ref (A 10)) (C := RX4) (T := TX4) (N := 8) hx hb hts hw4 hown hK hP 0 cX_at0 rfl 1 (by decide) k16 (fun _ h9 => h9) rfl dX4_when_61 ?_
          refine lv_iload_n hx hb dX4_when_64 rfl (lv_at hl 1 rfl) ?_
          obtain ⟨a_7, ha_7, hf⟩ := bd_e hf
          refine Ct.callV (As := [.int p1]) (rest := []) (st1 := [.int a_7]) (c_X0_isIn l D cI (fun j => A (10 + j)) q54.2 p1 a_7 ha_7) hx hb hml hown hts (cwV 1 hts gX4_when_X0_isIn rfl rfl rfl hd_X0_isIn ⟨Nat.le_of_ble_eq_true rfl, Nat.le_of_ble_eq_true rfl⟩) (va_recv hK hP (ci := 0) (q0 := 10) rfl cX_at10) ln_X_H_t hA hK hP hD hS rfl hl.1 rfl rfl (Nat.le_of_ble_eq_true rfl) dX4_when_65 (fun H locs hP hD hS => ?_)
          refine lv_if_eq (tgt := 82) hx hb dX4_when_68 (by decide) (fun c_8 => ?_) (fun c_8 => ?_)
          · replace hf := if_t c_8 hf
            refine lv_bipush (v := -9) hx hb dX4_when_82 (by decide +kernel) ?_
            refine lv_istore (lv' := [(4, .int (-9 : Int32)), (0, .ref (A 0)), (1, .int p1), (2, .int p2), (3, .int q54.1)]) hx hb dX4_when_84 hl (by decide) rfl (fun ls hl => ?_)
            refine lv_iload hx hb dX4_when_86 (lv_at hl 0 rfl) ?_
            refine lv_bipush (v := -9) hx hb dX4_when_88 (by decide +kernel) ?_
            refine lv_icmp_eq (tgt := 101) hx hb dX4_when_90 (by decide) (fun _ => ?_) (fun c0 => absurd c0 (by decide))
            refine lv_aload_n hx hb dX4_when_101 rfl (lv_at hl 1 rfl) ?_
            refine va_get (D := D) (ci := 4) (v := .ref (A 10)) (C := RX4) (T := TX4) (N := 8) hx hb hts hw4 hown hK hP 0 cX_at0 rfl 1 (by decide) k16 (fun _ h9 => h9) rfl dX4_when_102 ?_
            refine lv_iconst (v := 1) hx hb dX4_when_105 (by decide) ?_
            obtain ⟨a_9, ha_9, hf⟩ := bd_e hf
            refine Ct.callV (As := [.int (1 : Int32)]) (rest := []) (st1 := []) (c_X0_passTides l D cI (fun j => A (10 + j)) q54.2 (1 : Int32) a_9 ha_9) hx hb hml hown hts (cwV 1 hts gX4_when_X0_passTides rfl rfl rfl hd_X0_passTides ⟨Nat.le_of_ble_eq_true rfl, Nat.le_of_ble_eq_true rfl⟩) (va_recv hK hP (ci := 0) (q0 := 10) rfl cX_at10) ln_X_H_t hA hK hP hD hS rfl hl.1 rfl rfl (Nat.le_of_ble_eq_true rfl) dX4_when_106 (fun H locs hP hD hS => ?_)
            replace hP : va_P D vwCl (cX cI A n a_9 k g w z q) H := hP
            replace hD : va_D AA (cX cI A n a_9 k g w z q) := hD
            obtain ⟨v_10, ev_10, hf⟩ := nq_e hf
            refine lv_iinc (v := v_10) (lv' := [(3, .int v_10), (4, .int (-9 : Int32)), (0, .ref (A 0)), (1, .int p1), (2, .int p2)]) hx hb dX4_when_109 hl (k := 4) rfl (by rw [ev_10]; rfl) (by decide) rfl (fun ls hl => ?_)
            refine lv_goto (tgt := 54) hx hb dX4_when_112 (by decide) ?_
            exact ih54 (v_10, a_9) hf H locs ls hP hD hS (lv_sub hl [2, 3, 4, 0] rfl)
          · replace hf := if_f c_8 hf
            refine lv_aload_n hx hb dX4_when_71 rfl (lv_at hl 0 rfl) ?_
            refine va_get (D := D) (ci := 4) (v := .ref (A 10)) (C := RX4) (T := TX4) (N := 8) hx hb hts hw4 hown hK hP 0 cX_at0 rfl 1 (by decide) k16 (fun _ h9 => h9) rfl dX4_when_72 ?_
            refine lv_iload_n hx hb dX4_when_75 rfl (lv_at hl 1 rfl) ?_
            obtain ⟨a_11, ha_11, hf⟩ := bd_e hf
            refine Ct.callV (As := [.int p1]) (rest := []) (st1 := [.int a_11.1]) (c_X0_fewestWords l D cI (fun j => A (10 + j)) q54.2 p1 a_11 ha_11) hx hb hml hown hts (cwV 1 hts gX4_when_X0_fewestWords rfl rfl rfl hd_X0_fewestWords ⟨Nat.le_of_ble_eq_true rfl, Nat.le_of_ble_eq_true rfl⟩) (va_recv hK hP (ci := 0) (q0 := 10) rfl cX_at10) ln_X_H_t hA hK hP hD hS rfl hl.1 rfl rfl (Nat.le_of_ble_eq_true rfl) dX4_when_76 (fun H locs hP hD hS => ?_)
            replace hP : va_P D vwCl (cX cI A n a_11.2 k g w z q) H := hP
            replace hD : va_D AA (cX cI A n a_11.2 k g w z q) := hD
            refine lv_goto (tgt := 84) hx hb dX4_when_79 (by decide) ?_
            refine lv_istore (lv' := [(4, .int a_11.1), (0, .ref (A 0)), (1, .int p1), (2, .int p2), (3, .int q54.1)]) hx hb dX4_when_84 hl (by decide) rfl (fun ls hl => ?_)
            refine lv_iload hx hb dX4_when_86 (lv_at hl 0 rfl) ?_
            refine lv_bipush (v := -9) hx hb dX4_when_88 (by decide +kernel) ?_
            refine lv_icmp_eq (tgt := 101) hx hb dX4_when_90 (by decide) (fun c_12 => ?_) (fun c_12 => ?_)
            · replace hf := if_t c_12 hf
              refine lv_aload_n hx hb dX4_when_101 rfl (lv_at hl 1 rfl) ?_
              refine va_get (D := D) (ci := 4) (v := .ref (A 10)) (C := RX4) (T := TX4) (N := 8) hx hb hts hw4 hown hK hP 0 cX_at0 rfl 1 (by decide) k16 (fun _ h9 => h9) rfl dX4_when_102 ?_
              refine lv_iconst (v := 1) hx hb dX4_when_105 (by decide) ?_
              obtain ⟨a_13, ha_13, hf⟩ := bd_e hf
              refine Ct.callV (As := [.int (1 : Int32)]) (rest := []) (st1 := []) (c_X0_passTides l D cI (fun j => A (10 + j)) a_11.2 (1 : Int32) a_13 ha_13) hx hb hml hown hts (cwV 1 hts gX4_when_X0_passTides rfl rfl rfl hd_X0_passTides ⟨Nat.le_of_ble_eq_true rfl, Nat.le_of_ble_eq_true rfl⟩) (va_recv hK hP (ci := 0) (q0 := 10) rfl cX_at10) ln_X_H_t hA hK hP hD hS rfl hl.1 rfl rfl (Nat.le_of_ble_eq_true rfl) dX4_when_106 (fun H locs hP hD hS => ?_)
              replace hP : va_P D vwCl (cX cI A n a_13 k g w z q) H := hP
              replace hD : va_D AA (cX cI A n a_13 k g w z q) := hD
              obtain ⟨v_14, ev_14, hf⟩ := nq_e hf
              refine lv_iinc (v := v_14) (lv' := [(3, .int v_14), (4, .int a_11.1), (0, .ref (A 0)), (1, .int p1), (2, .int p2)]) hx hb dX4_when_109 hl (k := 4) rfl (by rw [ev_14]; rfl) (by decide) rfl (fun ls hl => ?_)
              refine lv_goto (tgt := 54) hx hb dX4_when_112 (by decide) ?_
              exact ih54 (v_14, a_13) hf H locs ls hP hD hS (lv_sub hl [2, 3, 4, 0] rfl)
            · replace hf := if_f c_12 hf
              refine lv_iload hx hb dX4_when_93 (lv_at hl 0 rfl) ?_
              refine lv_iload_n hx hb dX4_when_95 rfl (lv_at hl 3 rfl) ?_
              refine lv_icmp_gt (tgt := 101) hx hb dX4_when_96 (by decide) (fun c_15 => ?_) (fun c_15 => ?_)
              · replace hf := if_t c_15 hf
                refine lv_aload_n hx hb dX4_when_101 rfl (lv_at hl 1 rfl) ?_
                refine va_get (D := D) (ci := 4) (v := .ref (A 10)) (C := RX4) (T := TX4) (N := 8) hx hb hts hw4 hown hK hP 0 cX_at0 rfl 1 (by decide) k16 (fun _ h9 => h9) rfl dX4_when_102 ?_
                refine lv_iconst (v := 1) hx hb dX4_when_105 (by decide) ?_
                obtain ⟨a_16, ha_16, hf⟩ := bd_e hf
                refine Ct.callV (As := [.int (1 : Int32)]) (rest := []) (st1 := []) (c_X0_passTides l D cI (fun j => A (10 + j)) a_11.2 (1 : Int32) a_16 ha_16) hx hb hml hown hts (cwV 1 hts gX4_when_X0_passTides rfl rfl rfl hd_X0_passTides ⟨Nat.le_of_ble_eq_true rfl, Nat.le_of_ble_eq_true rfl⟩) (va_recv hK hP (ci := 0) (q0 := 10) rfl cX_at10) ln_X_H_t hA hK hP hD hS rfl hl.1 rfl rfl (Nat.le_of_ble_eq_true rfl) dX4_when_106 (fun H locs hP hD hS => ?_)
                replace hP : va_P D vwCl (cX cI A n a_16 k g w z q) H := hP
                replace hD : va_D AA (cX cI A n a_16 k g w z q) := hD
                obtain ⟨v_17, ev_17, hf⟩ := nq_e hf
                refine lv_iinc (v := v_17) (lv' := [(3, .int v_17), (4, .int a_11.1), (0, .ref (A 0)), (1, .int p1), (2, .int p2)]) hx hb dX4_when_109 hl (k := 4) rfl (by rw [ev_17]; rfl) (by decide) rfl (fun ls hl => ?_)
                refine lv_goto (tgt := 54) hx hb dX4_when_112 (by decide) ?_
                exact ih54 (v_17, a_16) hf H locs ls hP hD hS (lv_sub hl [2, 3, 4, 0] rfl)
              · replace hf := if_f c_15 hf
                refine lv_iload_n hx hb dX4_when_99 rfl (lv_at hl 4 rfl) ?_
                exact hend (q54.1, a_11.2, q) H locs _ _ hf hP hS dX4_when_100
      · replace hf := if_f c_4 hf
        refine lv_aload_n hx hb dX4_when_34 rfl (lv_at hl 0 rfl) ?_
        refine lv_bipush (v := -6) hx hb dX4_when_35 (by decide +kernel) ?_
        obtain ⟨a_18, ha_18, hf⟩ := bd_e hf
        refine Ct.callV (As := [.int (-6 : Int32)]) (rest := []) (st1 := [.int a_18.1]) (c_X4_refused l D cI A n t k g w z q (-6 : Int32) a_18 ha_18) hx hb hml hown hts (cwV 1 hts gX4_when_X4_refused rfl rfl rfl hd_X4_refused ⟨Nat.le_of_ble_eq_true rfl, Nat.le_of_ble_eq_true rfl⟩) (va_recv hK hP (ci := 4) (q0 := 0) rfl cX_at0) (Ln.id rfl) hA hK hP hD hS rfl hl.1 rfl rfl (Nat.le_of_ble_eq_true rfl) dX4_when_37 (fun H locs hP hD hS => ?_)
        replace hP : va_P D vwCl (cX cI A n t k g w z a_18.2) H := hP
        replace hD : va_D AA (cX cI A n t k g w z a_18.2) := hD
        exact hend (a_18.1, t, a_18.2) H locs _ _ hf hP hS dX4_when_40
    · replace hf := if_f c_3 hf
      refine lv_aload_n hx hb dX4_when_21 rfl (lv_at hl 0 rfl) ?_
      refine lv_bipush (v := -4) hx hb dX4_when_22 (by decide +kernel) ?_
      obtain ⟨a_19, ha_19, hf⟩ := bd_e hf
      refine Ct.callV (As := [.int (-4 : Int32)]) (rest := []) (st1 := [.int a_19.1]) (c_X4_refused l D cI A n t k g w z q (-4 : Int32) a_19 ha_19) hx hb hml hown hts (cwV 1 hts gX4_when_X4_refused rfl rfl rfl hd_X4_refused ⟨Nat.le_of_ble_eq_true rfl, Nat.le_of_ble_eq_true rfl⟩) (va_recv hK hP (ci := 4) (q0 := 0) rfl cX_at0) (Ln.id rfl) hA hK hP hD hS rfl hl.1 rfl rfl (Nat.le_of_ble_eq_true rfl) dX4_when_24 (fun H locs hP hD hS => ?_)
      replace hP : va_P D vwCl (cX cI A n t k g w z a_19.2) H := hP
      replace hD : va_D AA (cX cI A n t k g w z a_19.2) := hD
      exact hend (a_19.1, t, a_19.2) H locs _ _ hf hP hS dX4_when_27
  · replace hf := if_t c_2 hf
    refine lv_aload_n hx hb dX4_when_11 rfl (lv_at hl 0 rfl) ?_
    refine lv_iconst (v := -1) hx hb dX4_when_12 (by decide) ?_
    obtain ⟨a_20, ha_20, hf⟩ := bd_e hf
    refine Ct.callV (As := [.int (-1 : Int32)]) (rest := []) (st1 := [.int a_20.1]) (c_X4_refused l D cI A n t k g w z q (-1 : Int32) a_20 ha_20) hx hb hml hown hts (cwV 1 hts gX4_when_X4_refused rfl rfl rfl hd_X4_refused ⟨Nat.le_of_ble_eq_true rfl, Nat.le_of_ble_eq_true rfl⟩) (va_recv hK hP (ci := 4) (q0 := 0) rfl cX_at0) (Ln.id rfl) hA hK hP hD hS rfl hl.1 rfl rfl (Nat.le_of_ble_eq_true rfl) dX4_when_13 (fun H locs hP hD hS => ?_)
    replace hP : va_P D vwCl (cX cI A n t k g w z a_20.2) H := hP
    replace hD : va_D AA (cX cI A n t k g w z a_20.2) := hD
    exact hend (a_20.1, t, a_20.2) H locs _ _ hf hP hS dX4_when_16

def rm_X4_cheapest : Room := { frames := 4, cells := 0, slots := 0, locals := 93 }
theorem hd_X4_cheapest : yX4_cheapest.cls = RX4 ∧ yX4_cheapest.cls ≠ "java/lang/invoke/MethodHandle" ∧ yX4_cheapest.cls ≠ "java/lang/invoke/VarHandle" ∧ (parseMethodDescriptor yX4_cheapest.desc).map (fun d => d.parameters.length) = some 0 := by decide +kernel
set_option maxRecDepth 100000 in
set_option maxHeartbeats 4000000 in
theorem c_X4_cheapest (l : Launch) (D : va_G) (cI : ClassId) (A : Nat → Nat) (n : St) (t : St) (k : St) (g : St) (w : St) (z : St) (q : St) (r : Int32 × St) (hf : f_X4_cheapest n t k g w z q = some r) : Ct l yX4_cheapest wsX4_cheapest rm_X4_cheapest D cI (cX cI A n t k g w z q) (cX cI A r.2 t k g w z q) [.ref (A 0)] (some (.int r.1)) := by
  unfold f_X4_cheapest at hf
  refine Ct.ofI (cc := cX4_cheapest) (maxL := 5) (by decide +kernel) rfl (Nat.le_of_ble_eq_true rfl) ?_
  intro p e s m args below meth c AA Q H locs ls hx hb hml hown hts hA hK hP hD hS hl hend0
  have hend : ∀ (r1 : Int32 × St) (H : Heap) (locs : List Loc) (pc : Nat) (ls : Array Slot), some r1 = some r → va_P D vwCl (cX cI A r1.2 t k g w z q) H → va_S AA s.heap H locs → decode cX4_cheapest pc = .ok (.ireturn, 1) → W p l e rm_X4_cheapest s m args below meth c H locs 0 0 Q (F0 m pc ls [.int r1.1]) := by
    intro r1 H locs pc ls e1 hP hS hd; cases e1; exact hend0 H locs pc ls hP hS hd
  clear hend0
  have hw0 : ∀ w ∈ wsX00, w ∈ wsX4_cheapest := by decide +kernel
  have hw4 : ∀ w ∈ wsX40, w ∈ wsX4_cheapest := by decide +kernel
  have k10 := hts (.fieldLink RX4 10 "AnchorsForConfession" "now" "LAnchorsForConfession$Harbour;") (by decide +kernel)
  have k136 := hts (.fieldLink RX4 136 "AnchorsForConfession$Harbour" "ships" "I") (by decide +kernel)
  replace hl : lv_has ls 5 [(0, .ref (A 0))] := hl
  refine lv_bipush (v := -9) hx hb dX4_cheapest_0 (by decide +kernel) ?_
  refine lv_istore_n (lv' := [(1, .int (-9 : Int32)), (0, .ref (A 0))]) hx hb dX4_cheapest_2 rfl hl (by decide) rfl (fun ls hl => ?_)
  refine lv_bipush (v := -9) hx hb dX4_cheapest_3 (by decide +kernel) ?_
  refine lv_istore_n (lv' := [(2, .int (-9 : Int32)), (1, .int (-9 : Int32)), (0, .ref (A 0))]) hx hb dX4_cheapest_5 rfl hl (by decide) rfl (fun ls hl => ?_)
  refine lv_iconst (v := 0) hx hb dX4_cheapest_6 (by decide) ?_
  refine lv_istore_n (lv' := [(3, .int (0 : Int32)), (2, .int (-9 : Int32)), (1, .int (-9 : Int32)), (0, .ref (A 0))]) hx hb dX4_cheapest_7 rfl hl (by decide) rfl (fun ls hl => ?_)
  refine lp_ind (P := fun (q8 : Int32 × Int32 × Int32 × St) => ∀ (H : Heap) (locs : List Loc) (ls : Array Slot), va_P D vwCl (cX cI A q8.2.2.2 t k g w z q) H → va_D AA (cX cI A q8.2.2.2 t k g w z q) → va_S AA s.heap H locs → lv_has ls 5 [(0, .ref (A 0)), (1, .int q8.1), (2, .int q8.2.1), (3, .int q8.2.2.1)] → W p l e rm_X4_cheapest s m args below meth c H locs 0 0 Q (F0 m 8 ls [])) hf ?_ H locs ls hP hD hS (lv_sub hl [3, 2, 1, 0] rfl)
  clear hf hP hD hS hl
  intro nx8 ih8 q8 hf H locs ls hP hD hS hl
  refine lv_iload_n hx hb dX4_cheapest_8 rfl (lv_at hl 3 rfl) ?_
  refine lv_aload_n hx hb dX4_cheapest_9 rfl (lv_at hl 0 rfl) ?_
  refine va_get (D := D) (ci := 4) (v := .ref (A 1)) (C := RX4) (T := TX4) (N := 8) hx hb hts hw4 hown hK hP 0 cX_at0 rfl 0 (by decide) k10 (fun _ h9 => h9) rfl dX4_cheapest_10 ?_
  refine va_get (D := D) (ci := 0) (v := .int (q8.2.2.2 16 0)) (C := RX0) (T := TX0) (N := 12) hx hb hts hw0 hown hK hP 1 cX_at1 rfl 0 (by decide) k136 (fun _ h9 => h9) rfl dX4_cheapest_13 ?_
  refine lv_icmp_ge (tgt := 75) hx hb dX4_cheapest_16 (by decide) (fun c_1 => ?_) (fun c_1 => ?_)
  · replace hf := if_t c_1 hf
    refine lv_iload_n hx hb dX4_cheapest_75 rfl (lv_at hl 1 rfl) ?_
    exact hend (q8.1, q8.2.2.2) H locs _ _ hf hP hS dX4_cheapest_76
  · replace hf := if_f c_1 hf
    refine lv_aload_n hx hb dX4_cheapest_19 rfl (lv_at hl 0 rfl) ?_
    refine va_get (D := D) (ci := 4) (v := .ref (A 1)) (C := RX4) (T := TX4) (N := 8) hx hb hts hw4 hown hK hP 0 cX_at0 rfl 0 (by decide) k10 (fun _ h9 => h9) rfl dX4_cheapest_20 ?_
    refine lv_iload_n hx hb dX4_cheapest_23 rfl (lv_at hl 3 rfl) ?_
    obtain ⟨a_2, ha_2, hf⟩ := bd_e hf
    refine Ct.callV (As := [.int q8.2.2.1]) (rest := []) (st1 := [.int a_2]) (c_X0_isIn l D cI (fun j => A (1 + j)) q8.2.2.2 q8.2.2.1 a_2 ha_2) hx hb hml hown hts (cwV 1 hts gX4_cheapest_X0_isIn rfl rfl rfl hd_X0_isIn ⟨Nat.le_of_ble_eq_true rfl, Nat.le_of_ble_eq_true rfl⟩) (va_recv hK hP (ci := 0) (q0 := 1) rfl cX_at1) ln_X_H_n hA hK hP hD hS rfl hl.1 rfl rfl (Nat.le_of_ble_eq_true rfl) dX4_cheapest_24 (fun H locs hP hD hS => ?_)
    refine lv_if_eq (tgt := 41) hx hb dX4_cheapest_27 (by decide) (fun c_3 => ?_) (fun c_3 => ?_)
    · replace hf := if_t c_3 hf
      refine lv_bipush (v := -9) hx hb dX4_cheapest_41 (by decide +kernel) ?_
      refine lv_istore (lv' := [(4, .int (-9 : Int32)), (0, .ref (A 0)), (1, .int q8.1), (2, .int q8.2.1), (3, .int q8.2.2.1)]) hx hb dX4_cheapest_43 hl (by decide) rfl (fun ls hl => ?_)
      refine lv_iload hx hb dX4_cheapest_45 (lv_at hl 0 rfl) ?_
      refine lv_bipush (v := -9) hx hb dX4_cheapest_47 (by decide +kernel) ?_
      refine lv_icmp_eq (tgt := 69) hx hb dX4_cheapest_49 (by decide) (fun _ => ?_) (fun c0 => absurd c0 (by decide))
      obtain ⟨v_4, ev_4, hf⟩ := nq_e hf
      refine lv_iinc (v := v_4) (lv' := [(3, .int v_4), (4, .int (-9 : Int32)), (0, .ref (A 0)), (1, .int q8.1), (2, .int q8.2.1)]) hx hb dX4_cheapest_69 hl (k := 4) rfl (by rw [ev_4]; rfl) (by decide) rfl (fun ls hl => ?_)
      refine lv_goto (tgt := 8) hx hb dX4_cheapest_72 (by decide) ?_
      exact ih8 (q8.1, q8.2.1, v_4, q8.2.2.2) hf H locs ls hP hD hS (lv_sub hl [2, 3, 4, 0] rfl)
    · replace hf := if_f c_3 hf
      refine lv_aload_n hx hb dX4_cheapest_30 rfl (lv_at hl 0 rfl) ?_
      refine va_get (D := D) (ci := 4) (v := .ref (A 1)) (C := RX4) (T := TX4) (N := 8) hx hb hts hw4 hown hK hP 0 cX_at0 rfl 0 (by decide) k10 (fun _ h9 => h9) rfl dX4_cheapest_31 ?_
      refine lv_iload_n hx hb dX4_cheapest_34 rfl (lv_at hl 3 rfl) ?_
      obtain ⟨a_5, ha_5, hf⟩ := bd_e hf
      refine Ct.callV (As := [.int q8.2.2.1]) (rest := []) (st1 := [.int a_5.1]) (c_X0_fewestWords l D cI (fun j => A (1 + j)) q8.2.2.2 q8.2.2.1 a_5 ha_5) hx hb hml hown hts (cwV 1 hts gX4_cheapest_X0_fewestWords rfl rfl rfl hd_X0_fewestWords ⟨Nat.le_of_ble_eq_true rfl, Nat.le_of_ble_eq_true rfl⟩) (va_recv hK hP (ci := 0) (q0 := 1) rfl cX_at1) ln_X_H_n hA hK hP hD hS rfl hl.1 rfl rfl (Nat.le_of_ble_eq_true rfl) dX4_cheapest_35 (fun H locs hP hD hS => ?_)
      replace hP : va_P D vwCl (cX cI A a_5.2 t k g w z q) H := hP
      replace hD : va_D AA (cX cI A a_5.2 t k g w z q) := hD
      refine lv_goto (tgt := 43) hx hb dX4_cheapest_38 (by decide) ?_
      refine lv_istore (lv' := [(4, .int a_5.1), (0, .ref (A 0)), (1, .int q8.1), (2, .int q8.2.1), (3, .int q8.2.2.1)]) hx hb dX4_cheapest_43 hl (by decide) rfl (fun ls hl => ?_)
      refine lv_iload hx hb dX4_cheapest_45 (lv_at hl 0 rfl) ?_
      refine lv_bipush (v := -9) hx hb dX4_cheapest_47 (by decide +kernel) ?_
      refine lv_icmp_eq (tgt := 69) hx hb dX4_cheapest_49 (by decide) (fun c_6 => ?_) (fun c_6 => ?_)
      · replace hf := if_t c_6 hf
        obtain ⟨v_7, ev_7, hf⟩ := nq_e hf
        refine lv_iinc (v := v_7) (lv' := [(3, .int v_7), (4, .int a_5.1), (0, .ref (A 0)), (1, .int q8.1), (2, .int q8.2.1)]) hx hb dX4_cheapest_69 hl (k := 4) rfl (by rw [ev_7]; rfl) (by decide) rfl (fun ls hl => ?_)
        refine lv_goto (tgt := 8) hx hb dX4_cheapest_72 (by decide) ?_
        exact ih8 (q8.1, q8.2.1, v_7, a_5.2) hf H locs ls hP hD hS (lv_sub hl [2, 3, 4, 0] rfl)
      · replace hf := if_f c_6 hf
        refine lv_iload_n hx hb dX4_cheapest_52 rfl (lv_at hl 2 rfl) ?_
        refine lv_bipush (v := -9) hx hb dX4_cheapest_53 (by decide +kernel) ?_
        refine lv_icmp_eq (tgt := 64) hx hb dX4_cheapest_55 (by decide) (fun c_8 => ?_) (fun c_8 => ?_)
        · replace hf := if_t c_8 hf
          refine lv_iload hx hb dX4_cheapest_64 (lv_at hl 0 rfl) ?_
          refine lv_istore_n (lv' := [(2, .int a_5.1), (4, .int a_5.1), (0, .ref (A 0)), (1, .int q8.1), (3, .int q8.2.2.1)]) hx hb dX4_cheapest_66 rfl hl (by decide) rfl (fun ls hl => ?_)
          refine lv_iload_n hx hb dX4_cheapest_67 rfl (lv_at hl 4 rfl) ?_
          refine lv_istore_n (lv' := [(1, .int q8.2.2.1), (2, .int a_5.1), (4, .int a_5.1), (0, .ref (A 0)), (3, .int q8.2.2.1)]) hx hb dX4_cheapest_68 rfl hl (by decide) rfl (fun ls hl => ?_)
          obtain ⟨v_9, ev_9, hf⟩ := nq_e hf
          refine lv_iinc (v := v_9) (lv' := [(3, .int v_9), (1, .int q8.2.2.1), (2, .int a_5.1), (4, .int a_5.1), (0, .ref (A 0))]) hx hb dX4_cheapest_69 hl (k := 4) rfl (by rw [ev_9]; rfl) (by decide) rfl (fun ls hl => ?_)
          refine lv_goto (tgt := 8) hx hb dX4_cheapest_72 (by decide) ?_
          exact ih8 (q8.2.2.1, a_5.1, v_9, a_5.2) hf H locs ls hP hD hS (lv_sub hl [4, 1, 2, 0] rfl)
        · replace hf := if_f c_8 hf
          refine lv_iload hx hb dX4_cheapest_58 (lv_at hl 0 rfl) ?_
          refine lv_iload_n hx hb dX4_cheapest_60 rfl (lv_at hl 3 rfl) ?_
          refine lv_icmp_ge (tgt := 69) hx hb dX4_cheapest_61 (by decide) (fun c_10 => ?_) (fun c_10 => ?_)
          · replace hf := if_t c_10 hf
            obtain ⟨v_11, ev_11, hf⟩ := nq_e hf
            refine lv_iinc (v := v_11) (lv' := [(3, .int v_11), (4, .int a_5.1), (0, .ref (A 0)), (1, .int q8.1), (2, .int q8.2.1)]) hx hb dX4_cheapest_69 hl (k := 4) rfl (by rw [ev_11]; rfl) (by decide) rfl (fun ls hl => ?_)
            refine lv_goto (tgt := 8) hx hb dX4_cheapest_72 (by decide) ?_
            exact ih8 (q8.1, q8.2.1, v_11, a_5.2) hf H locs ls hP hD hS (lv_sub hl [2, 3, 4, 0] rfl)
          · replace hf := if_f c_10 hf
            refine lv_iload hx hb dX4_cheapest_64 (lv_at hl 0 rfl) ?_
            refine lv_istore_n (lv' := [(2, .int a_5.1), (4, .int a_5.1), (0, .ref (A 0)), (1, .int q8.1), (3, .int q8.2.2.1)]) hx hb dX4_cheapest_66 rfl hl (by decide) rfl (fun ls hl => ?_)
            refine lv_iload_n hx hb dX4_cheapest_67 rfl (lv_at hl 4 rfl) ?_
            refine lv_istore_n (lv' := [(1, .int q8.2.2.1), (2, .int a_5.1), (4, .int a_5.1), (0, .ref (A 0)), (3, .int q8.2.2.1)]) hx hb dX4_cheapest_68 rfl hl (by decide) rfl (fun ls hl => ?_)
            obtain ⟨v_12, ev_12, hf⟩ := nq_e hf
            refine lv_iinc (v := v_12) (lv' := [(3, .int v_12), (1, .int q8.2.2.1), (2, .int a_5.1), (4, .int a_5.1), (0, .ref (A 0))]) hx hb dX4_cheapest_69 hl (k := 4) rfl (by rw [ev_12]; rfl) (by decide) rfl (fun ls hl => ?_)
            refine lv_goto (tgt := 8) hx hb dX4_cheapest_72 (by decide) ?_
            exact ih8 (q8.2.2.1, a_5.1, v_12, a_5.2) hf H locs ls hP hD hS (lv_sub hl [4, 1, 2, 0] rfl)

def rm_X4_berth : Room := { frames := 5, cells := 0, slots := 0, locals := 110 }
theorem hd_X4_berth : yX4_berth.cls = RX4 ∧ yX4_berth.cls ≠ "java/lang/invoke/MethodHandle" ∧ yX4_berth.cls ≠ "java/lang/invoke/VarHandle" ∧ (parseMethodDescriptor yX4_berth.desc).map (fun d => d.parameters.length) = some 1 := by decide +kernel
set_option maxRecDepth 100000 in
set_option maxHeartbeats 4000000 in
theorem c_X4_berth (l : Launch) (D : va_G) (cI : ClassId) (A : Nat → Nat) (n : St) (t : St) (k : St) (g : St) (w : St) (z : St) (q : St) (p1 : Int32) (r : Int32 × St × St) (hf : f_X4_berth n t k g w z q p1 = some r) : Ct l yX4_berth wsX4_berth rm_X4_berth D cI (cX cI A n t k g w z q) (cX cI A n r.2.1 k g w z r.2.2) [.ref (A 0), .int p1] (some (.int r.1)) := by
  unfold f_X4_berth at hf
  refine Ct.ofI (cc := cX4_berth) (maxL := 6) (by decide +kernel) rfl (Nat.le_of_ble_eq_true rfl) ?_
  intro p e s m args below meth c AA Q H locs ls hx hb hml hown hts hA hK hP hD hS hl hend0
  have hend : ∀ (r1 : Int32 × St × St) (H : Heap) (locs : List Loc) (pc : Nat) (ls : Array Slot), some r1 = some r → va_P D vwCl (cX cI A n r1.2.1 k g w z r1.2.2) H → va_S AA s.heap H locs → decode cX4_berth pc = .ok (.ireturn, 1) → W p l e rm_X4_berth s m args below meth c H locs 0 0 Q (F0 m pc ls [.int r1.1]) := by
    intro r1 H locs pc ls e1 hP hS hd; cases e1; exact hend0 H locs pc ls hP hS hd
  clear hend0
  have hw0 : ∀ w ∈ wsX00, w ∈ wsX4_berth := by decide +kernel
  have hw4 : ∀ w ∈ wsX40, w ∈ wsX4_berth := by decide +kernel
  have k10 := hts (.fieldLink RX4 10 "AnchorsForConfession" "now" "LAnchorsForConfession$Harbour;") (by decide +kernel)
  have k16 := hts (.fieldLink RX4 16 "AnchorsForConfession" "thought" "LAnchorsForConfession$Harbour;") (by decide +kernel)
  have k86 := hts (.fieldLink RX4 86 "AnchorsForConfession$Harbour" "aboard" "[I") (by decide +kernel)
  have k136 := hts (.fieldLink RX4 136 "AnchorsForConfession$Harbour" "ships" "I") (by decide +kernel)
  replace hl : lv_has ls 6 [(0, .ref (A 0)), (1, .int p1)] := hl
  refine lv_aload_n hx hb dX4_berth_0 rfl (lv_at hl 0 rfl) ?_
  refine va_get (D := D) (ci := 4) (v := .ref (A 1)) (C := RX4) (T := TX4) (N := 8) hx hb hts hw4 hown hK hP 0 cX_at0 rfl 0 (by decide) k10 (fun _ h9 => h9) rfl dX4_berth_1 ?_
  refine lv_iload_n hx hb dX4_berth_4 rfl (lv_at hl 1 rfl) ?_
  obtain ⟨a_1, ha_1, hf⟩ := bd_e hf
  refine Ct.callV (As := [.int p1]) (rest := []) (st1 := [.int a_1]) (c_X0_hasMan l D cI (fun j => A (1 + j)) n p1 a_1 ha_1) hx hb hml hown hts (cwV 1 hts gX4_berth_X0_hasMan rfl rfl rfl hd_X0_hasMan ⟨Nat.le_of_ble_eq_true rfl, Nat.le_of_ble_eq_true rfl⟩) (va_recv hK hP (ci := 0) (q0 := 1) rfl cX_at1) ln_X_H_n hA hK hP hD hS rfl hl.1 rfl rfl (Nat.le_of_ble_eq_true rfl) dX4_berth_5 (fun H locs hP hD hS => ?_)
  refine lv_if_ne (tgt := 17) hx hb dX4_berth_8 (by decide) (fun c_2 => ?_) (fun c_2 => ?_)
  · replace hf := if_f c_2 hf
    refine lv_bipush (v := -9) hx hb dX4_berth_17 (by decide +kernel) ?_
    refine lv_istore_n (lv' := [(2, .int (-9 : Int32)), (0, .ref (A 0)), (1, .int p1)]) hx hb dX4_berth_19 rfl hl (by decide) rfl (fun ls hl => ?_)
    refine lv_aload_n hx hb dX4_berth_20 rfl (lv_at hl 1 rfl) ?_
    refine va_get (D := D) (ci := 4) (v := .ref (A 1)) (C := RX4) (T := TX4) (N := 8) hx hb hts hw4 hown hK hP 0 cX_at0 rfl 0 (by decide) k10 (fun _ h9 => h9) rfl dX4_berth_21 ?_
    obtain ⟨a_3, ha_3, hf⟩ := bd_e hf
    refine Ct.callV (As := []) (rest := []) (st1 := [.int a_3]) (c_X0_countRisable l D cI (fun j => A (1 + j)) n a_3 ha_3) hx hb hml hown hts (cwV 0 hts gX4_berth_X0_countRisable rfl rfl rfl hd_X0_countRisable ⟨Nat.le_of_ble_eq_true rfl, Nat.le_of_ble_eq_true rfl⟩) (va_recv hK hP (ci := 0) (q0 := 1) rfl cX_at1) ln_X_H_n hA hK hP hD hS rfl hl.1 rfl rfl (Nat.le_of_ble_eq_true rfl) dX4_berth_24 (fun H locs hP hD hS => ?_)
    refine lv_istore_n (lv' := [(3, .int a_3), (2, .int (-9 : Int32)), (0, .ref (A 0)), (1, .int p1)]) hx hb dX4_berth_27 rfl hl (by decide) rfl (fun ls hl => ?_)
    refine lv_aload_n hx hb dX4_berth_28 rfl (lv_at hl 2 rfl) ?_
    refine va_get (D := D) (ci := 4) (v := .ref (A 10)) (C := RX4) (T := TX4) (N := 8) hx hb hts hw4 hown hK hP 0 cX_at0 rfl 1 (by decide) k16 (fun _ h9 => h9) rfl dX4_berth_29 ?_
    refine lv_aload_n hx hb dX4_berth_32 rfl (lv_at hl 2 rfl) ?_
    refine va_get (D := D) (ci := 4) (v := .ref (A 1)) (C := RX4) (T := TX4) (N := 8) hx hb hts hw4 hown hK hP 0 cX_at0 rfl 0 (by decide) k10 (fun _ h9 => h9) rfl dX4_berth_33 ?_
    obtain ⟨a_4, ha_4, hf⟩ := bd_e hf
    refine Ct.callV (As := [.ref (A 1)]) (rest := []) (st1 := []) (c_X0_copyFrom l D cI (fun j => A (10 + j)) (fun j => A (1 + j)) t n a_4 ha_4) hx hb hml hown hts (cwV 1 hts gX4_berth_X0_copyFrom rfl rfl rfl hd_X0_copyFrom ⟨Nat.le_of_ble_eq_true rfl, Nat.le_of_ble_eq_true rfl⟩) (va_recv hK hP (ci := 0) (q0 := 10) rfl cX_at10) ln_X_HH_tn hA hK hP hD hS rfl hl.1 rfl rfl (Nat.le_of_ble_eq_true rfl) dX4_berth_36 (fun H locs hP hD hS => ?_)
    replace hP : va_P D vwCl (cX cI A n a_4 k g w z q) H := hP
    replace hD : va_D AA (cX cI A n a_4 k g w z q) := hD
    refine lv_iconst (v := 0) hx hb dX4_berth_39 (by decide) ?_
    refine lv_istore (lv' := [(4, .int (0 : Int32)), (3, .int a_3), (2, .int (-9 : Int32)), (0, .ref (A 0)), (1, .int p1)]) hx hb dX4_berth_40 hl (by decide) rfl (fun ls hl => ?_)
    refine lp_ind (P := fun (q42 : Int32 × Int32 × Int32 × St) => ∀ (H : Heap) (locs : List Loc) (ls : Array Slot), va_P D vwCl (cX cI A n q42.2.2.2 k g w z q) H → va_D AA (cX cI A n q42.2.2.2 k g w z q) → va_S AA s.heap H locs → lv_has ls 6 [(0, .ref (A 0)), (1, .int p1), (2, .int q42.1), (3, .int q42.2.1), (4, .int q42.2.2.1)] → W p l e rm_X4_berth s m args below meth c H locs 0 0 Q (F0 m 42 ls [])) hf ?_ H locs ls hP hD hS (lv_sub hl [3, 4, 2, 1, 0] rfl)
    clear hf hP hD hS hl
    intro nx42 ih42 q42 hf H locs ls hP hD hS hl
    refine lv_iload hx hb dX4_berth_42 (lv_at hl 4 rfl) ?_
    refine lv_aload_n hx hb dX4_berth_44 rfl (lv_at hl 0 rfl) ?_
    refine va_get (D := D) (ci := 4) (v := .ref (A 1)) (C := RX4) (T := TX4) (N := 8) hx hb hts hw4 hown hK hP 0 cX_at0 rfl 0 (by decide) k10 (fun _ h9 => h9) rfl dX4_berth_45 ?_
    refine va_get (D := D) (ci := 0) (v := .int (n 16 0)) (C := RX0) (T := TX0) (N := 12) hx hb hts hw0 hown hK hP 1 cX_at1 rfl 0 (by decide) k136 (fun _ h9 => h9) rfl dX4_berth_48 ?_
    refine lv_icmp_ge (tgt := 104) hx hb dX4_berth_51 (by decide) (fun c_5 => ?_) (fun c_5 => ?_)
    · replace hf := if_t c_5 hf
      refine lv_iload_n hx hb dX4_berth_104 rfl (lv_at hl 2 rfl) ?_
      exact hend (q42.1, q42.2.2.2, q) H locs _ _ hf hP hS dX4_berth_105
    · replace hf := if_f c_5 hf
      refine lv_aload_n hx hb dX4_berth_54 rfl (lv_at hl 0 rfl) ?_
      refine va_get (D := D) (ci := 4) (v := .ref (A 10)) (C := RX4) (T := TX4) (N := 8) hx hb hts hw4 hown hK hP 0 cX_at0 rfl 1 (by decide) k16 (fun _ h9 => h9) rfl dX4_berth_55 ?_
      refine va_get (D := D) (ci := 0) (v := .ref (A 17)) (C := RX0) (T := TX0) (N := 12) hx hb hts hw0 hown hK hP 10 cX_at10 rfl 8 (by decide) k86 (fun _ h9 => h9) rfl dX4_berth_58 ?_
      refine lv_iload_n hx hb dX4_berth_61 rfl (lv_at hl 1 rfl) ?_
      refine lv_iload hx hb dX4_berth_62 (lv_at hl 4 rfl) ?_
      obtain ⟨c_6, hf⟩ := gi_e hf
      refine va_iast hx hb hK hP hD hS 17 0 cX_at17 rfl c_6 dX4_berth_64 (fun H locs hP hD hS => ?_)
      obtain ⟨h_7, eh_7, hf⟩ := nq_e hf
      rw [cX_su17, ← eh_7] at hP hD
      refine lv_aload_n hx hb dX4_berth_65 rfl (lv_at hl 0 rfl) ?_
      refine va_get (D := D) (ci := 4) (v := .ref (A 10)) (C := RX4) (T := TX4) (N := 8) hx hb hts hw4 hown hK hP 0 cX_at0 rfl 1 (by decide) k16 (fun _ h9 => h9) rfl dX4_berth_66 ?_
      obtain ⟨a_8, ha_8, hf⟩ := bd_e hf
      refine Ct.callV (As := []) (rest := []) (st1 := [.int a_8]) (c_X0_countRisable l D cI (fun j => A (10 + j)) h_7 a_8 ha_8) hx hb hml hown hts (cwV 0 hts gX4_berth_X0_countRisable rfl rfl rfl hd_X0_countRisable ⟨Nat.le_of_ble_eq_true rfl, Nat.le_of_ble_eq_true rfl⟩) (va_recv hK hP (ci := 0) (q0 := 10) rfl cX_at10) ln_X_H_t hA hK hP hD hS rfl hl.1 rfl rfl (Nat.le_of_ble_eq_true rfl) dX4_berth_69 (fun H locs hP hD hS => ?_)
      refine lv_istore (lv' := [(5, .int a_8), (0, .ref (A 0)), (1, .int p1), (2, .int q42.1), (3, .int q42.2.1), (4, .int q42.2.2.1)]) hx hb dX4_berth_72 hl (by decide) rfl (fun ls hl => ?_)
      refine lv_aload_n hx hb dX4_berth_74 rfl (lv_at hl 1 rfl) ?_
      refine va_get (D := D) (ci := 4) (v := .ref (A 1)) (C := RX4) (T := TX4) (N := 8) hx hb hts hw4 hown hK hP 0 cX_at0 rfl 0 (by decide) k10 (fun _ h9 => h9) rfl dX4_berth_75 ?_
      refine lv_iload hx hb dX4_berth_78 (lv_at hl 5 rfl) ?_
      obtain ⟨a_9, ha_9, hf⟩ := bd_e hf
      refine Ct.callV (As := [.int q42.2.2.1]) (rest := []) (st1 := [.int a_9]) (c_X0_isIn l D cI (fun j => A (1 + j)) n q42.2.2.1 a_9 ha_9) hx hb hml hown hts (cwV 1 hts gX4_berth_X0_isIn rfl rfl rfl hd_X0_isIn ⟨Nat.le_of_ble_eq_true rfl, Nat.le_of_ble_eq_true rfl⟩) (va_recv hK hP (ci := 0) (q0 := 1) rfl cX_at1) ln_X_H_n hA hK hP hD hS rfl hl.1 rfl rfl (Nat.le_of_ble_eq_true rfl) dX4_berth_80 (fun H locs hP hD hS => ?_)
      refine lv_if_eq (tgt := 98) hx hb dX4_berth_83 (by decide) (fun c_10 => ?_) (fun c_10 => ?_)
      · replace hf := if_t c_10 hf
        obtain ⟨v_11, ev_11, hf⟩ := nq_e hf
        refine lv_iinc (v := v_11) (lv' := [(4, .int v_11), (5, .int a_8), (0, .ref (A 0)), (1, .int p1), (2, .int q42.1), (3, .int q42.2.1)]) hx hb dX4_berth_98 hl (k := 5) rfl (by rw [ev_11]; rfl) (by decide) rfl (fun ls hl => ?_)
        refine lv_goto (tgt := 42) hx hb dX4_berth_101 (by decide) ?_
        exact ih42 (q42.1, q42.2.1, v_11, h_7) hf H locs ls hP hD hS (lv_sub hl [2, 3, 4, 5, 0] rfl)
      · replace hf := if_f c_10 hf
        refine lv_iload hx hb dX4_berth_86 (lv_at hl 0 rfl) ?_
        refine lv_iload_n hx hb dX4_berth_88 rfl (lv_at hl 4 rfl) ?_
        refine lv_icmp_le (tgt := 98) hx hb dX4_berth_89 (by decide) (fun c_12 => ?_) (fun c_12 => ?_)
        · replace hf := if_t c_12 hf
          obtain ⟨v_13, ev_13, hf⟩ := nq_e hf
          refine lv_iinc (v := v_13) (lv' := [(4, .int v_13), (5, .int a_8), (0, .ref (A 0)), (1, .int p1), (2, .int q42.1), (3, .int q42.2.1)]) hx hb dX4_berth_98 hl (k := 5) rfl (by rw [ev_13]; rfl) (by decide) rfl (fun ls hl => ?_)
          refine lv_goto (tgt := 42) hx hb dX4_berth_101 (by decide) ?_
          exact ih42 (q42.1, q42.2.1, v_13, h_7) hf H locs ls hP hD hS (lv_sub hl [2, 3, 4, 5, 0] rfl)
        · replace hf := if_f c_12 hf
          refine lv_iload hx hb dX4_berth_92 (lv_at hl 0 rfl) ?_
          refine lv_istore_n (lv' := [(3, .int a_8), (5, .int a_8), (0, .ref (A 0)), (1, .int p1), (2, .int q42.1), (4, .int q42.2.2.1)]) hx hb dX4_berth_94 rfl hl (by decide) rfl (fun ls hl => ?_)
          refine lv_iload hx hb dX4_berth_95 (lv_at hl 5 rfl) ?_
          refine lv_istore_n (lv' := [(2, .int q42.2.2.1), (3, .int a_8), (5, .int a_8), (0, .ref (A 0)), (1, .int p1), (4, .int q42.2.2.1)]) hx hb dX4_berth_97 rfl hl (by decide) rfl (fun ls hl => ?_)
          obtain ⟨v_14, ev_14, hf⟩ := nq_e hf
          refine lv_iinc (v := v_14) (lv' := [(4, .int v_14), (2, .int q42.2.2.1), (3, .int a_8), (5, .int a_8), (0, .ref (A 0)), (1, .int p1)]) hx hb dX4_berth_98 hl (k := 5) rfl (by rw [ev_14]; rfl) (by decide) rfl (fun ls hl => ?_)
          refine lv_goto (tgt := 42) hx hb dX4_berth_101 (by decide) ?_
          exact ih42 (q42.2.2.1, a_8, v_14, h_7) hf H locs ls hP hD hS (lv_sub hl [4, 5, 1, 2, 0] rfl)
  · replace hf := if_t c_2 hf
    refine lv_aload_n hx hb dX4_berth_11 rfl (lv_at hl 0 rfl) ?_
    refine lv_iconst (v := -1) hx hb dX4_berth_12 (by decide) ?_
    obtain ⟨a_15, ha_15, hf⟩ := bd_e hf
    refine Ct.callV (As := [.int (-1 : Int32)]) (rest := []) (st1 := [.int a_15.1]) (c_X4_refused l D cI A n t k g w z q (-1 : Int32) a_15 ha_15) hx hb hml hown hts (cwV 1 hts gX4_berth_X4_refused rfl rfl rfl hd_X4_refused ⟨Nat.le_of_ble_eq_true rfl, Nat.le_of_ble_eq_true rfl⟩) (va_recv hK hP (ci := 4) (q0 := 0) rfl cX_at0) (Ln.id rfl) hA hK hP hD hS rfl hl.1 rfl rfl (Nat.le_of_ble_eq_true rfl) dX4_berth_13 (fun H locs hP hD hS => ?_)
    replace hP : va_P D vwCl (cX cI A n t k g w z a_15.2) H := hP
    replace hD : va_D AA (cX cI A n t k g w z a_15.2) := hD
    exact hend (a_15.1, t, a_15.2) H locs _ _ hf hP hS dX4_berth_16

def rm_X4_rise : Room := { frames := 5, cells := 0, slots := 0, locals := 110 }
theorem hd_X4_rise : yX4_rise.cls = RX4 ∧ yX4_rise.cls ≠ "java/lang/invoke/MethodHandle" ∧ yX4_rise.cls ≠ "java/lang/invoke/VarHandle" ∧ (parseMethodDescriptor yX4_rise.desc).map (fun d => d.parameters.length) = some 0 := by decide +kernel
set_option maxRecDepth 100000 in
set_option maxHeartbeats 4000000 in
theorem c_X4_rise (l : Launch) (D : va_G) (cI : ClassId) (A : Nat → Nat) (n : St) (t : St) (k : St) (g : St) (w : St) (z : St) (q : St) (r : Int32) (hf : f_X4_rise n t k g w z q = some r) : Ct l yX4_rise wsX4_rise rm_X4_rise D cI (cX cI A n t k g w z q) (cX cI A n t k g w z q) [.ref (A 0)] (some (.int r)) := by
  unfold f_X4_rise at hf
  refine Ct.ofI (cc := cX4_rise) (maxL := 1) (by decide +kernel) rfl (Nat.le_of_ble_eq_true rfl) ?_
  intro p e s m args below meth c AA Q H locs ls hx hb hml hown hts hA hK hP hD hS hl hend0
  have hend : ∀ (r1 : Int32) (H : Heap) (locs : List Loc) (pc : Nat) (ls : Array Slot), some r1 = some r → va_P D vwCl (cX cI A n t k g w z q) H → va_S AA s.heap H locs → decode cX4_rise pc = .ok (.ireturn, 1) → W p l e rm_X4_rise s m args below meth c H locs 0 0 Q (F0 m pc ls [.int r1]) := by
    intro r1 H locs pc ls e1 hP hS hd; cases e1; exact hend0 H locs pc ls hP hS hd
  clear hend0
  have hw4 : ∀ w ∈ wsX40, w ∈ wsX4_rise := by decide +kernel
  have k10 := hts (.fieldLink RX4 10 "AnchorsForConfession" "now" "LAnchorsForConfession$Harbour;") (by decide +kernel)
  replace hl : lv_has ls 1 [(0, .ref (A 0))] := hl
  refine lv_aload_n hx hb dX4_rise_0 rfl (lv_at hl 0 rfl) ?_
  refine va_get (D := D) (ci := 4) (v := .ref (A 1)) (C := RX4) (T := TX4) (N := 8) hx hb hts hw4 hown hK hP 0 cX_at0 rfl 0 (by decide) k10 (fun _ h9 => h9) rfl dX4_rise_1 ?_
  obtain ⟨a_1, ha_1, hf⟩ := bd_e hf
  refine Ct.callV (As := []) (rest := []) (st1 := [.int a_1]) (c_X0_countRisable l D cI (fun j => A (1 + j)) n a_1 ha_1) hx hb hml hown hts (cwV 0 hts gX4_rise_X0_countRisable rfl rfl rfl hd_X0_countRisable ⟨Nat.le_of_ble_eq_true rfl, Nat.le_of_ble_eq_true rfl⟩) (va_recv hK hP (ci := 0) (q0 := 1) rfl cX_at1) ln_X_H_n hA hK hP hD hS rfl hl.1 rfl rfl (Nat.le_of_ble_eq_true rfl) dX4_rise_4 (fun H locs hP hD hS => ?_)
  exact hend a_1 H locs _ _ hf hP hS dX4_rise_7

def rm_X4_risableHavingChanged : Room := { frames := 5, cells := 0, slots := 0, locals := 110 }
theorem hd_X4_risableHavingChanged : yX4_risableHavingChanged.cls = RX4 ∧ yX4_risableHavingChanged.cls ≠ "java/lang/invoke/MethodHandle" ∧ yX4_risableHavingChanged.cls ≠ "java/lang/invoke/VarHandle" ∧ (parseMethodDescriptor yX4_risableHavingChanged.desc).map (fun d => d.parameters.length) = some 2 := by decide +kernel
set_option maxRecDepth 100000 in
set_option maxHeartbeats 4000000 in
theorem c_X4_risableHavingChanged (l : Launch) (D : va_G) (cI : ClassId) (A : Nat → Nat) (n : St) (t : St) (k : St) (g : St) (w : St) (z : St) (q : St) (p1 : Int32) (p2 : Int32) (r : Int32 × St) (hf : f_X4_risableHavingChanged n t k g w z q p1 p2 = some r) : Ct l yX4_risableHavingChanged wsX4_risableHavingChanged rm_X4_risableHavingChanged D cI (cX cI A n t k g w z q) (cX cI A n r.2 k g w z q) [.ref (A 0), .int p1, .int p2] (some (.int r.1)) := by
  unfold f_X4_risableHavingChanged at hf
  refine Ct.ofI (cc := cX4_risableHavingChanged) (maxL := 3) (by decide +kernel) rfl (Nat.le_of_ble_eq_true rfl) ?_
  intro p e s m args below meth c AA Q H locs ls hx hb hml hown hts hA hK hP hD hS hl hend0
  have hend : ∀ (r1 : Int32 × St) (H : Heap) (locs : List Loc) (pc : Nat) (ls : Array Slot), some r1 = some r → va_P D vwCl (cX cI A n r1.2 k g w z q) H → va_S AA s.heap H locs → decode cX4_risableHavingChanged pc = .ok (.ireturn, 1) → W p l e rm_X4_risableHavingChanged s m args below meth c H locs 0 0 Q (F0 m pc ls [.int r1.1]) := by
    intro r1 H locs pc ls e1 hP hS hd; cases e1; exact hend0 H locs pc ls hP hS hd
  clear hend0
  have hw0 : ∀ w ∈ wsX00, w ∈ wsX4_risableHavingChanged := by decide +kernel
  have hw4 : ∀ w ∈ wsX40, w ∈ wsX4_risableHavingChanged := by decide +kernel
  have k10 := hts (.fieldLink RX4 10 "AnchorsForConfession" "now" "LAnchorsForConfession$Harbour;") (by decide +kernel)
  have k16 := hts (.fieldLink RX4 16 "AnchorsForConfession" "thought" "LAnchorsForConfession$Harbour;") (by decide +kernel)
  have k86 := hts (.fieldLink RX4 86 "AnchorsForConfession$Harbour" "aboard" "[I") (by decide +kernel)
  replace hl : lv_has ls 3 [(0, .ref (A 0)), (1, .int p1), (2, .int p2)] := hl
  refine lv_aload_n hx hb dX4_risableHavingChanged_0 rfl (lv_at hl 0 rfl) ?_
  refine va_get (D := D) (ci := 4) (v := .ref (A 10)) (C := RX4) (T := TX4) (N := 8) hx hb hts hw4 hown hK hP 0 cX_at0 rfl 1 (by decide) k16 (fun _ h9 => h9) rfl dX4_risableHavingChanged_1 ?_
  refine lv_aload_n hx hb dX4_risableHavingChanged_4 rfl (lv_at hl 0 rfl) ?_
  refine va_get (D := D) (ci := 4) (v := .ref (A 1)) (C := RX4) (T := TX4) (N := 8) hx hb hts hw4 hown hK hP 0 cX_at0 rfl 0 (by decide) k10 (fun _ h9 => h9) rfl dX4_risableHavingChanged_5 ?_
  obtain ⟨a_1, ha_1, hf⟩ := bd_e hf
  refine Ct.callV (As := [.ref (A 1)]) (rest := []) (st1 := []) (c_X0_copyFrom l D cI (fun j => A (10 + j)) (fun j => A (1 + j)) t n a_1 ha_1) hx hb hml hown hts (cwV 1 hts gX4_risableHavingChanged_X0_copyFrom rfl rfl rfl hd_X0_copyFrom ⟨Nat.le_of_ble_eq_true rfl, Nat.le_of_ble_eq_true rfl⟩) (va_recv hK hP (ci := 0) (q0 := 10) rfl cX_at10) ln_X_HH_tn hA hK hP hD hS rfl hl.1 rfl rfl (Nat.le_of_ble_eq_true rfl) dX4_risableHavingChanged_8 (fun H locs hP hD hS => ?_)
  replace hP : va_P D vwCl (cX cI A n a_1 k g w z q) H := hP
  replace hD : va_D AA (cX cI A n a_1 k g w z q) := hD
  refine lv_aload_n hx hb dX4_risableHavingChanged_11 rfl (lv_at hl 0 rfl) ?_
  refine va_get (D := D) (ci := 4) (v := .ref (A 10)) (C := RX4) (T := TX4) (N := 8) hx hb hts hw4 hown hK hP 0 cX_at0 rfl 1 (by decide) k16 (fun _ h9 => h9) rfl dX4_risableHavingChanged_12 ?_
  refine va_get (D := D) (ci := 0) (v := .ref (A 17)) (C := RX0) (T := TX0) (N := 12) hx hb hts hw0 hown hK hP 10 cX_at10 rfl 8 (by decide) k86 (fun _ h9 => h9) rfl dX4_risableHavingChanged_15 ?_
  refine lv_iload_n hx hb dX4_risableHavingChanged_18 rfl (lv_at hl 1 rfl) ?_
  refine lv_aload_n hx hb dX4_risableHavingChanged_19 rfl (lv_at hl 0 rfl) ?_
  refine va_get (D := D) (ci := 4) (v := .ref (A 1)) (C := RX4) (T := TX4) (N := 8) hx hb hts hw4 hown hK hP 0 cX_at0 rfl 0 (by decide) k10 (fun _ h9 => h9) rfl dX4_risableHavingChanged_20 ?_
  refine va_get (D := D) (ci := 0) (v := .ref (A 8)) (C := RX0) (T := TX0) (N := 12) hx hb hts hw0 hown hK hP 1 cX_at1 rfl 8 (by decide) k86 (fun _ h9 => h9) rfl dX4_risableHavingChanged_23 ?_
  refine lv_iload_n hx hb dX4_risableHavingChanged_26 rfl (lv_at hl 2 rfl) ?_
  obtain ⟨c_2, hf⟩ := gi_e hf
  refine va_iald hx hb hK hP 8 0 cX_at8 rfl c_2 dX4_risableHavingChanged_27 ?_
  obtain ⟨c_3, hf⟩ := gi_e hf
  refine va_iast hx hb hK hP hD hS 17 0 cX_at17 rfl c_3 dX4_risableHavingChanged_28 (fun H locs hP hD hS => ?_)
  obtain ⟨h_4, eh_4, hf⟩ := nq_e hf
  rw [cX_su17, ← eh_4] at hP hD
  refine lv_aload_n hx hb dX4_risableHavingChanged_29 rfl (lv_at hl 0 rfl) ?_
  refine va_get (D := D) (ci := 4) (v := .ref (A 10)) (C := RX4) (T := TX4) (N := 8) hx hb hts hw4 hown hK hP 0 cX_at0 rfl 1 (by decide) k16 (fun _ h9 => h9) rfl dX4_risableHavingChanged_30 ?_
  refine va_get (D := D) (ci := 0) (v := .ref (A 17)) (C := RX0) (T := TX0) (N := 12) hx hb hts hw0 hown hK hP 10 cX_at10 rfl 8 (by decide) k86 (fun _ h9 => h9) rfl dX4_risableHavingChanged_33 ?_
  refine lv_iload_n hx hb dX4_risableHavingChanged_36 rfl (lv_at hl 2 rfl) ?_
  refine lv_aload_n hx hb dX4_risableHavingChanged_37 rfl (lv_at hl 0 rfl) ?_
  refine va_get (D := D) (ci := 4) (v := .ref (A 1)) (C := RX4) (T := TX4) (N := 8) hx hb hts hw4 hown hK hP 0 cX_at0 rfl 0 (by decide) k10 (fun _ h9 => h9) rfl dX4_risableHavingChanged_38 ?_
  refine va_get (D := D) (ci := 0) (v := .ref (A 8)) (C := RX0) (T := TX0) (N := 12) hx hb hts hw0 hown hK hP 1 cX_at1 rfl 8 (by decide) k86 (fun _ h9 => h9) rfl dX4_risableHavingChanged_41 ?_
  refine lv_iload_n hx hb dX4_risableHavingChanged_44 rfl (lv_at hl 1 rfl) ?_
  obtain ⟨c_5, hf⟩ := gi_e hf
  refine va_iald hx hb hK hP 8 0 cX_at8 rfl c_5 dX4_risableHavingChanged_45 ?_
  obtain ⟨c_6, hf⟩ := gi_e hf
  refine va_iast hx hb hK hP hD hS 17 0 cX_at17 rfl c_6 dX4_risableHavingChanged_46 (fun H locs hP hD hS => ?_)
  obtain ⟨h_7, eh_7, hf⟩ := nq_e hf
  rw [cX_su17, ← eh_7] at hP hD
  refine lv_aload_n hx hb dX4_risableHavingChanged_47 rfl (lv_at hl 0 rfl) ?_
  refine va_get (D := D) (ci := 4) (v := .ref (A 10)) (C := RX4) (T := TX4) (N := 8) hx hb hts hw4 hown hK hP 0 cX_at0 rfl 1 (by decide) k16 (fun _ h9 => h9) rfl dX4_risableHavingChanged_48 ?_
  obtain ⟨a_8, ha_8, hf⟩ := bd_e hf
  refine Ct.callV (As := []) (rest := []) (st1 := [.int a_8]) (c_X0_countRisable l D cI (fun j => A (10 + j)) h_7 a_8 ha_8) hx hb hml hown hts (cwV 0 hts gX4_risableHavingChanged_X0_countRisable rfl rfl rfl hd_X0_countRisable ⟨Nat.le_of_ble_eq_true rfl, Nat.le_of_ble_eq_true rfl⟩) (va_recv hK hP (ci := 0) (q0 := 10) rfl cX_at10) ln_X_H_t hA hK hP hD hS rfl hl.1 rfl rfl (Nat.le_of_ble_eq_true rfl) dX4_risableHavingChanged_51 (fun H locs hP hD hS => ?_)
  exact hend (a_8, h_7) H locs _ _ hf hP hS dX4_risableHavingChanged_54

def rm_X4_deal : Room := { frames := 6, cells := 0, slots := 0, locals := 132 }
theorem hd_X4_deal : yX4_deal.cls = RX4 ∧ yX4_deal.cls ≠ "java/lang/invoke/MethodHandle" ∧ yX4_deal.cls ≠ "java/lang/invoke/VarHandle" ∧ (parseMethodDescriptor yX4_deal.desc).map (fun d => d.parameters.length) = some 0 := by decide +kernel
set_option maxRecDepth 100000 in
set_option maxHeartbeats 4000000 in
theorem c_X4_deal (l : Launch) (D : va_G) (cI : ClassId) (A : Nat → Nat) (n : St) (t : St) (k : St) (g : St) (w : St) (z : St) (q : St) (r : Int32 × St) (hf : f_X4_deal n t k g w z q = some r) : Ct l yX4_deal wsX4_deal rm_X4_deal D cI (cX cI A n t k g w z q) (cX cI A n r.2 k g w z q) [.ref (A 0)] (some (.int r.1)) := by
  unfold f_X4_deal at hf
  refine Ct.ofI (cc := cX4_deal) (maxL := 6) (by decide +kernel) rfl (Nat.le_of_ble_eq_true rfl) ?_
  intro p e s m args below meth c AA Q H locs ls hx hb hml hown hts hA hK hP hD hS hl hend0
  have hend : ∀ (r1 : Int32 × St) (H : Heap) (locs : List Loc) (pc : Nat) (ls : Array Slot), some r1 = some r → va_P D vwCl (cX cI A n r1.2 k g w z q) H → va_S AA s.heap H locs → decode cX4_deal pc = .ok (.ireturn, 1) → W p l e rm_X4_deal s m args below meth c H locs 0 0 Q (F0 m pc ls [.int r1.1]) := by
    intro r1 H locs pc ls e1 hP hS hd; cases e1; exact hend0 H locs pc ls hP hS hd
  clear hend0
  have hw0 : ∀ w ∈ wsX00, w ∈ wsX4_deal := by decide +kernel
  have hw4 : ∀ w ∈ wsX40, w ∈ wsX4_deal := by decide +kernel
  have k10 := hts (.fieldLink RX4 10 "AnchorsForConfession" "now" "LAnchorsForConfession$Harbour;") (by decide +kernel)
  have k86 := hts (.fieldLink RX4 86 "AnchorsForConfession$Harbour" "aboard" "[I") (by decide +kernel)
  have k155 := hts (.fieldLink RX4 155 "AnchorsForConfession$Harbour" "men" "I") (by decide +kernel)
  replace hl : lv_has ls 6 [(0, .ref (A 0))] := hl
  refine lv_bipush (v := -9) hx hb dX4_deal_0 (by decide +kernel) ?_
  refine lv_istore_n (lv' := [(1, .int (-9 : Int32)), (0, .ref (A 0))]) hx hb dX4_deal_2 rfl hl (by decide) rfl (fun ls hl => ?_)
  refine lv_aload_n hx hb dX4_deal_3 rfl (lv_at hl 1 rfl) ?_
  refine va_get (D := D) (ci := 4) (v := .ref (A 1)) (C := RX4) (T := TX4) (N := 8) hx hb hts hw4 hown hK hP 0 cX_at0 rfl 0 (by decide) k10 (fun _ h9 => h9) rfl dX4_deal_4 ?_
  obtain ⟨a_1, ha_1, hf⟩ := bd_e hf
  refine Ct.callV (As := []) (rest := []) (st1 := [.int a_1]) (c_X0_countRisable l D cI (fun j => A (1 + j)) n a_1 ha_1) hx hb hml hown hts (cwV 0 hts gX4_deal_X0_countRisable rfl rfl rfl hd_X0_countRisable ⟨Nat.le_of_ble_eq_true rfl, Nat.le_of_ble_eq_true rfl⟩) (va_recv hK hP (ci := 0) (q0 := 1) rfl cX_at1) ln_X_H_n hA hK hP hD hS rfl hl.1 rfl rfl (Nat.le_of_ble_eq_true rfl) dX4_deal_7 (fun H locs hP hD hS => ?_)
  refine lv_istore_n (lv' := [(2, .int a_1), (1, .int (-9 : Int32)), (0, .ref (A 0))]) hx hb dX4_deal_10 rfl hl (by decide) rfl (fun ls hl => ?_)
  refine lv_iconst (v := 0) hx hb dX4_deal_11 (by decide) ?_
  refine lv_istore_n (lv' := [(3, .int (0 : Int32)), (2, .int a_1), (1, .int (-9 : Int32)), (0, .ref (A 0))]) hx hb dX4_deal_12 rfl hl (by decide) rfl (fun ls hl => ?_)
  refine lp_ind (P := fun (q13 : Int32 × Int32 × Int32 × St) => ∀ (H : Heap) (locs : List Loc) (ls : Array Slot), va_P D vwCl (cX cI A n q13.2.2.2 k g w z q) H → va_D AA (cX cI A n q13.2.2.2 k g w z q) → va_S AA s.heap H locs → lv_has ls 6 [(0, .ref (A 0)), (1, .int q13.1), (2, .int q13.2.1), (3, .int q13.2.2.1)] → W p l e rm_X4_deal s m args below meth c H locs 0 0 Q (F0 m 13 ls [])) hf ?_ H locs ls hP hD hS (lv_sub hl [3, 2, 1, 0] rfl)
  clear hf hP hD hS hl
  intro nx13 ih13 q13 hf H locs ls hP hD hS hl
  refine lv_iload_n hx hb dX4_deal_13 rfl (lv_at hl 3 rfl) ?_
  refine lv_aload_n hx hb dX4_deal_14 rfl (lv_at hl 0 rfl) ?_
  refine va_get (D := D) (ci := 4) (v := .ref (A 1)) (C := RX4) (T := TX4) (N := 8) hx hb hts hw4 hown hK hP 0 cX_at0 rfl 0 (by decide) k10 (fun _ h9 => h9) rfl dX4_deal_15 ?_
  refine va_get (D := D) (ci := 0) (v := .int (n 16 1)) (C := RX0) (T := TX0) (N := 12) hx hb hts hw0 hown hK hP 1 cX_at1 rfl 4 (by decide) k155 (fun _ h9 => h9) rfl dX4_deal_18 ?_
  refine lv_icmp_ge (tgt := 101) hx hb dX4_deal_21 (by decide) (fun c_2 => ?_) (fun c_2 => ?_)
  · replace hf := if_t c_2 hf
    refine lv_iload_n hx hb dX4_deal_101 rfl (lv_at hl 1 rfl) ?_
    exact hend (q13.1, q13.2.2.2) H locs _ _ hf hP hS dX4_deal_102
  · replace hf := if_f c_2 hf
    refine lv_iload_n hx hb dX4_deal_24 rfl (lv_at hl 3 rfl) ?_
    refine lv_iconst (v := 1) hx hb dX4_deal_25 (by decide) ?_
    refine lv_iadd hx hb dX4_deal_26 ?_
    refine lv_topi (fun v_3 ev_3 => ?_)
    replace hf := nm_at ev_3 hf
    refine lv_istore (lv' := [(4, .int v_3), (0, .ref (A 0)), (1, .int q13.1), (2, .int q13.2.1), (3, .int q13.2.2.1)]) hx hb dX4_deal_27 hl (by decide) rfl (fun ls hl => ?_)
    refine lp_ind (P := fun (q29 : Int32 × Int32 × Int32 × St) => ∀ (H : Heap) (locs : List Loc) (ls : Array Slot), va_P D vwCl (cX cI A n q29.2.2.2 k g w z q) H → va_D AA (cX cI A n q29.2.2.2 k g w z q) → va_S AA s.heap H locs → lv_has ls 6 [(0, .ref (A 0)), (1, .int q29.1), (2, .int q29.2.1), (3, .int q13.2.2.1), (4, .int q29.2.2.1)] → W p l e rm_X4_deal s m args below meth c H locs 0 0 Q (F0 m 29 ls [])) hf ?_ H locs ls hP hD hS (lv_sub hl [1, 2, 3, 4, 0] rfl)
    clear hf hP hD hS hl
    intro nx29 ih29 q29 hf H locs ls hP hD hS hl
    refine lv_iload hx hb dX4_deal_29 (lv_at hl 4 rfl) ?_
    refine lv_aload_n hx hb dX4_deal_31 rfl (lv_at hl 0 rfl) ?_
    refine va_get (D := D) (ci := 4) (v := .ref (A 1)) (C := RX4) (T := TX4) (N := 8) hx hb hts hw4 hown hK hP 0 cX_at0 rfl 0 (by decide) k10 (fun _ h9 => h9) rfl dX4_deal_32 ?_
    refine va_get (D := D) (ci := 0) (v := .int (n 16 1)) (C := RX0) (T := TX0) (N := 12) hx hb hts hw0 hown hK hP 1 cX_at1 rfl 4 (by decide) k155 (fun _ h9 => h9) rfl dX4_deal_35 ?_
    refine lv_icmp_ge (tgt := 95) hx hb dX4_deal_38 (by decide) (fun c_4 => ?_) (fun c_4 => ?_)
    · replace hf := if_t c_4 hf
      obtain ⟨v_5, ev_5, hf⟩ := nq_e hf
      refine lv_iinc (v := v_5) (lv' := [(3, .int v_5), (0, .ref (A 0)), (1, .int q29.1), (2, .int q29.2.1), (4, .int q29.2.2.1)]) hx hb dX4_deal_95 hl (k := 3) rfl (by rw [ev_5]; rfl) (by decide) rfl (fun ls hl => ?_)
      refine lv_goto (tgt := 13) hx hb dX4_deal_98 (by decide) ?_
      exact ih13 (q29.1, q29.2.1, v_5, q29.2.2.2) hf H locs ls hP hD hS (lv_sub hl [1, 2, 3, 0] rfl)
    · replace hf := if_f c_4 hf
      refine lv_aload_n hx hb dX4_deal_41 rfl (lv_at hl 0 rfl) ?_
      refine lv_iload_n hx hb dX4_deal_42 rfl (lv_at hl 3 rfl) ?_
      refine lv_iload hx hb dX4_deal_43 (lv_at hl 4 rfl) ?_
      obtain ⟨a_6, ha_6, hf⟩ := bd_e hf
      refine Ct.callV (As := [.int q13.2.2.1, .int q29.2.2.1]) (rest := []) (st1 := [.int a_6.1]) (c_X4_risableHavingChanged l D cI A n q29.2.2.2 k g w z q q13.2.2.1 q29.2.2.1 a_6 ha_6) hx hb hml hown hts (cwV 2 hts gX4_deal_X4_risableHavingChanged rfl rfl rfl hd_X4_risableHavingChanged ⟨Nat.le_of_ble_eq_true rfl, Nat.le_of_ble_eq_true rfl⟩) (va_recv hK hP (ci := 4) (q0 := 0) rfl cX_at0) (Ln.id rfl) hA hK hP hD hS rfl hl.1 rfl rfl (Nat.le_of_ble_eq_true rfl) dX4_deal_45 (fun H locs hP hD hS => ?_)
      replace hP : va_P D vwCl (cX cI A n a_6.2 k g w z q) H := hP
      replace hD : va_D AA (cX cI A n a_6.2 k g w z q) := hD
      refine lv_istore (lv' := [(5, .int a_6.1), (0, .ref (A 0)), (1, .int q29.1), (2, .int q29.2.1), (3, .int q13.2.2.1), (4, .int q29.2.2.1)]) hx hb dX4_deal_48 hl (by decide) rfl (fun ls hl => ?_)
      refine lv_aload_n hx hb dX4_deal_50 rfl (lv_at hl 1 rfl) ?_
      refine va_get (D := D) (ci := 4) (v := .ref (A 1)) (C := RX4) (T := TX4) (N := 8) hx hb hts hw4 hown hK hP 0 cX_at0 rfl 0 (by decide) k10 (fun _ h9 => h9) rfl dX4_deal_51 ?_
      refine va_get (D := D) (ci := 0) (v := .ref (A 8)) (C := RX0) (T := TX0) (N := 12) hx hb hts hw0 hown hK hP 1 cX_at1 rfl 8 (by decide) k86 (fun _ h9 => h9) rfl dX4_deal_54 ?_
      refine lv_iload_n hx hb dX4_deal_57 rfl (lv_at hl 4 rfl) ?_
      obtain ⟨c_7, hf⟩ := gi_e hf
      refine va_iald hx hb hK hP 8 0 cX_at8 rfl c_7 dX4_deal_58 ?_
      refine lv_aload_n hx hb dX4_deal_59 rfl (lv_at hl 1 rfl) ?_
      refine va_get (D := D) (ci := 4) (v := .ref (A 1)) (C := RX4) (T := TX4) (N := 8) hx hb hts hw4 hown hK hP 0 cX_at0 rfl 0 (by decide) k10 (fun _ h9 => h9) rfl dX4_deal_60 ?_
      refine va_get (D := D) (ci := 0) (v := .ref (A 8)) (C := RX0) (T := TX0) (N := 12) hx hb hts hw0 hown hK hP 1 cX_at1 rfl 8 (by decide) k86 (fun _ h9 => h9) rfl dX4_deal_63 ?_
      refine lv_iload hx hb dX4_deal_66 (lv_at hl 5 rfl) ?_
      obtain ⟨c_8, hf⟩ := gi_e hf
      refine va_iald hx hb hK hP 8 0 cX_at8 rfl c_8 dX4_deal_68 ?_
      refine lv_icmp_eq (tgt := 89) hx hb dX4_deal_69 (by decide) (fun c_9 => ?_) (fun c_9 => ?_)
      · replace hf := if_t c_9 hf
        obtain ⟨v_10, ev_10, hf⟩ := nq_e hf
        refine lv_iinc (v := v_10) (lv' := [(4, .int v_10), (5, .int a_6.1), (0, .ref (A 0)), (1, .int q29.1), (2, .int q29.2.1), (3, .int q13.2.2.1)]) hx hb dX4_deal_89 hl (k := 5) rfl (by rw [ev_10]; rfl) (by decide) rfl (fun ls hl => ?_)
        refine lv_goto (tgt := 29) hx hb dX4_deal_92 (by decide) ?_
        exact ih29 (q29.1, q29.2.1, v_10, a_6.2) hf H locs ls hP hD hS (lv_sub hl [2, 3, 4, 5, 0] rfl)
      · replace hf := if_f c_9 hf
        refine lv_iload hx hb dX4_deal_72 (lv_at hl 0 rfl) ?_
        refine lv_iload_n hx hb dX4_deal_74 rfl (lv_at hl 3 rfl) ?_
        refine lv_icmp_le (tgt := 89) hx hb dX4_deal_75 (by decide) (fun c_11 => ?_) (fun c_11 => ?_)
        · replace hf := if_t c_11 hf
          obtain ⟨v_12, ev_12, hf⟩ := nq_e hf
          refine lv_iinc (v := v_12) (lv' := [(4, .int v_12), (5, .int a_6.1), (0, .ref (A 0)), (1, .int q29.1), (2, .int q29.2.1), (3, .int q13.2.2.1)]) hx hb dX4_deal_89 hl (k := 5) rfl (by rw [ev_12]; rfl) (by decide) rfl (fun ls hl => ?_)
          refine lv_goto (tgt := 29) hx hb dX4_deal_92 (by decide) ?_
          exact ih29 (q29.1, q29.2.1, v_12, a_6.2) hf H locs ls hP hD hS (lv_sub hl [2, 3, 4, 5, 0] rfl)
        · replace hf := if_f c_11 hf
          refine lv_iload hx hb dX4_deal_78 (lv_at hl 0 rfl) ?_
          refine lv_istore_n (lv' := [(2, .int a_6.1), (5, .int a_6.1), (0, .ref (A 0)), (1, .int q29.1), (3, .int q13.2.2.1), (4, .int q29.2.2.1)]) hx hb dX4_deal_80 rfl hl (by decide) rfl (fun ls hl => ?_)
          refine lv_bipush (v := 10) hx hb dX4_deal_81 (by decide +kernel) ?_
          refine lv_iload_n hx hb dX4_deal_83 rfl (lv_at hl 4 rfl) ?_
          refine lv_imul hx hb dX4_deal_84 ?_
          refine lv_iload hx hb dX4_deal_85 (lv_at hl 5 rfl) ?_
          refine lv_iadd hx hb dX4_deal_87 ?_
          refine lv_topi (fun v_13 ev_13 => ?_)
          replace hf := nm_at ev_13 hf
          refine lv_istore_n (lv' := [(1, .int v_13), (2, .int a_6.1), (5, .int a_6.1), (0, .ref (A 0)), (3, .int q13.2.2.1), (4, .int q29.2.2.1)]) hx hb dX4_deal_88 rfl hl (by decide) rfl (fun ls hl => ?_)
          obtain ⟨v_14, ev_14, hf⟩ := nq_e hf
          refine lv_iinc (v := v_14) (lv' := [(4, .int v_14), (1, .int v_13), (2, .int a_6.1), (5, .int a_6.1), (0, .ref (A 0)), (3, .int q13.2.2.1)]) hx hb dX4_deal_89 hl (k := 5) rfl (by rw [ev_14]; rfl) (by decide) rfl (fun ls hl => ?_)
          refine lv_goto (tgt := 29) hx hb dX4_deal_92 (by decide) ?_
          exact ih29 (v_13, a_6.1, v_14, a_6.2) hf H locs ls hP hD hS (lv_sub hl [4, 1, 2, 5, 0] rfl)

def rm_X4_hush : Room := { frames := 4, cells := 0, slots := 0, locals := 88 }
theorem hd_X4_hush : yX4_hush.cls = RX4 ∧ yX4_hush.cls ≠ "java/lang/invoke/MethodHandle" ∧ yX4_hush.cls ≠ "java/lang/invoke/VarHandle" ∧ (parseMethodDescriptor yX4_hush.desc).map (fun d => d.parameters.length) = some 0 := by decide +kernel
set_option maxRecDepth 100000 in
set_option maxHeartbeats 4000000 in
theorem c_X4_hush (l : Launch) (D : va_G) (cI : ClassId) (A : Nat → Nat) (n : St) (t : St) (k : St) (g : St) (w : St) (z : St) (q : St) (r : Int32) (hf : f_X4_hush n t k g w z q = some r) : Ct l yX4_hush wsX4_hush rm_X4_hush D cI (cX cI A n t k g w z q) (cX cI A n t k g w z q) [.ref (A 0)] (some (.int r)) := by
  unfold f_X4_hush at hf
  refine Ct.ofI (cc := cX4_hush) (maxL := 4) (by decide +kernel) rfl (Nat.le_of_ble_eq_true rfl) ?_
  intro p e s m args below meth c AA Q H locs ls hx hb hml hown hts hA hK hP hD hS hl hend0
  have hend : ∀ (r1 : Int32) (H : Heap) (locs : List Loc) (pc : Nat) (ls : Array Slot), some r1 = some r → va_P D vwCl (cX cI A n t k g w z q) H → va_S AA s.heap H locs → decode cX4_hush pc = .ok (.ireturn, 1) → W p l e rm_X4_hush s m args below meth c H locs 0 0 Q (F0 m pc ls [.int r1]) := by
    intro r1 H locs pc ls e1 hP hS hd; cases e1; exact hend0 H locs pc ls hP hS hd
  clear hend0
  have hw0 : ∀ w ∈ wsX00, w ∈ wsX4_hush := by decide +kernel
  have hw4 : ∀ w ∈ wsX40, w ∈ wsX4_hush := by decide +kernel
  have k10 := hts (.fieldLink RX4 10 "AnchorsForConfession" "now" "LAnchorsForConfession$Harbour;") (by decide +kernel)
  have k86 := hts (.fieldLink RX4 86 "AnchorsForConfession$Harbour" "aboard" "[I") (by decide +kernel)
  have k89 := hts (.fieldLink RX4 89 "AnchorsForConfession$Harbour" "sinsOf" "[I") (by decide +kernel)
  have k155 := hts (.fieldLink RX4 155 "AnchorsForConfession$Harbour" "men" "I") (by decide +kernel)
  replace hl : lv_has ls 4 [(0, .ref (A 0))] := hl
  refine lv_iconst (v := 0) hx hb dX4_hush_0 (by decide) ?_
  refine lv_istore_n (lv' := [(1, .int (0 : Int32)), (0, .ref (A 0))]) hx hb dX4_hush_1 rfl hl (by decide) rfl (fun ls hl => ?_)
  refine lv_iconst (v := 0) hx hb dX4_hush_2 (by decide) ?_
  refine lv_istore_n (lv' := [(2, .int (0 : Int32)), (1, .int (0 : Int32)), (0, .ref (A 0))]) hx hb dX4_hush_3 rfl hl (by decide) rfl (fun ls hl => ?_)
  refine lp_ind (P := fun (q4 : Int32 × Int32) => ∀ (H : Heap) (locs : List Loc) (ls : Array Slot), va_P D vwCl (cX cI A n t k g w z q) H → va_D AA (cX cI A n t k g w z q) → va_S AA s.heap H locs → lv_has ls 4 [(0, .ref (A 0)), (1, .int q4.1), (2, .int q4.2)] → W p l e rm_X4_hush s m args below meth c H locs 0 0 Q (F0 m 4 ls [])) hf ?_ H locs ls hP hD hS (lv_sub hl [2, 1, 0] rfl)
  clear hf hP hD hS hl
  intro nx4 ih4 q4 hf H locs ls hP hD hS hl
  refine lv_iload_n hx hb dX4_hush_4 rfl (lv_at hl 2 rfl) ?_
  refine lv_aload_n hx hb dX4_hush_5 rfl (lv_at hl 0 rfl) ?_
  refine va_get (D := D) (ci := 4) (v := .ref (A 1)) (C := RX4) (T := TX4) (N := 8) hx hb hts hw4 hown hK hP 0 cX_at0 rfl 0 (by decide) k10 (fun _ h9 => h9) rfl dX4_hush_6 ?_
  refine va_get (D := D) (ci := 0) (v := .int (n 16 1)) (C := RX0) (T := TX0) (N := 12) hx hb hts hw0 hown hK hP 1 cX_at1 rfl 4 (by decide) k155 (fun _ h9 => h9) rfl dX4_hush_9 ?_
  refine lv_icmp_ge (tgt := 86) hx hb dX4_hush_12 (by decide) (fun c_1 => ?_) (fun c_1 => ?_)
  · replace hf := if_t c_1 hf
    refine lv_iload_n hx hb dX4_hush_86 rfl (lv_at hl 1 rfl) ?_
    exact hend q4.1 H locs _ _ hf hP hS dX4_hush_87
  · replace hf := if_f c_1 hf
    refine lv_aload_n hx hb dX4_hush_15 rfl (lv_at hl 0 rfl) ?_
    refine va_get (D := D) (ci := 4) (v := .ref (A 1)) (C := RX4) (T := TX4) (N := 8) hx hb hts hw4 hown hK hP 0 cX_at0 rfl 0 (by decide) k10 (fun _ h9 => h9) rfl dX4_hush_16 ?_
    refine va_get (D := D) (ci := 0) (v := .ref (A 8)) (C := RX0) (T := TX0) (N := 12) hx hb hts hw0 hown hK hP 1 cX_at1 rfl 8 (by decide) k86 (fun _ h9 => h9) rfl dX4_hush_19 ?_
    refine lv_iload_n hx hb dX4_hush_22 rfl (lv_at hl 2 rfl) ?_
    obtain ⟨c_2, hf⟩ := gi_e hf
    refine va_iald hx hb hK hP 8 0 cX_at8 rfl c_2 dX4_hush_23 ?_
    refine lv_topi (fun v_3 ev_3 => ?_)
    replace hf := nm_at ev_3 hf
    refine lv_istore_n (lv' := [(3, .int v_3), (0, .ref (A 0)), (1, .int q4.1), (2, .int q4.2)]) hx hb dX4_hush_24 rfl hl (by decide) rfl (fun ls hl => ?_)
    refine lv_aload_n hx hb dX4_hush_25 rfl (lv_at hl 1 rfl) ?_
    refine va_get (D := D) (ci := 4) (v := .ref (A 1)) (C := RX4) (T := TX4) (N := 8) hx hb hts hw4 hown hK hP 0 cX_at0 rfl 0 (by decide) k10 (fun _ h9 => h9) rfl dX4_hush_26 ?_
    refine lv_iload_n hx hb dX4_hush_29 rfl (lv_at hl 0 rfl) ?_
    obtain ⟨a_4, ha_4, hf⟩ := bd_e hf
    refine Ct.callV (As := [.int v_3]) (rest := []) (st1 := [.int a_4]) (c_X0_canRise l D cI (fun j => A (1 + j)) n v_3 a_4 ha_4) hx hb hml hown hts (cwV 1 hts gX4_hush_X0_canRise rfl rfl rfl hd_X0_canRise ⟨Nat.le_of_ble_eq_true rfl, Nat.le_of_ble_eq_true rfl⟩) (va_recv hK hP (ci := 0) (q0 := 1) rfl cX_at1) ln_X_H_n hA hK hP hD hS rfl hl.1 rfl rfl (Nat.le_of_ble_eq_true rfl) dX4_hush_30 (fun H locs hP hD hS => ?_)
    refine lv_if_eq (tgt := 80) hx hb dX4_hush_33 (by decide) (fun c_5 => ?_) (fun c_5 => ?_)
    · replace hf := if_t c_5 hf
      obtain ⟨v_6, ev_6, hf⟩ := nq_e hf
      refine lv_iinc (v := v_6) (lv' := [(2, .int v_6), (3, .int v_3), (0, .ref (A 0)), (1, .int q4.1)]) hx hb dX4_hush_80 hl (k := 3) rfl (by rw [ev_6]; rfl) (by decide) rfl (fun ls hl => ?_)
      refine lv_goto (tgt := 4) hx hb dX4_hush_83 (by decide) ?_
      exact ih4 (q4.1, v_6) hf H locs ls hP hD hS (lv_sub hl [2, 3, 0] rfl)
    · replace hf := if_f c_5 hf
      refine lv_aload_n hx hb dX4_hush_36 rfl (lv_at hl 1 rfl) ?_
      refine va_get (D := D) (ci := 4) (v := .ref (A 1)) (C := RX4) (T := TX4) (N := 8) hx hb hts hw4 hown hK hP 0 cX_at0 rfl 0 (by decide) k10 (fun _ h9 => h9) rfl dX4_hush_37 ?_
      refine lv_iload_n hx hb dX4_hush_40 rfl (lv_at hl 0 rfl) ?_
      obtain ⟨a_7, ha_7, hf⟩ := bd_e hf
      refine Ct.callV (As := [.int v_3]) (rest := []) (st1 := [.int a_7]) (c_X0_pool l D cI (fun j => A (1 + j)) n v_3 a_7 ha_7) hx hb hml hown hts (cwV 1 hts gX4_hush_X0_pool rfl rfl rfl hd_X0_pool ⟨Nat.le_of_ble_eq_true rfl, Nat.le_of_ble_eq_true rfl⟩) (va_recv hK hP (ci := 0) (q0 := 1) rfl cX_at1) ln_X_H_n hA hK hP hD hS rfl hl.1 rfl rfl (Nat.le_of_ble_eq_true rfl) dX4_hush_41 (fun H locs hP hD hS => ?_)
      refine lv_aload_n hx hb dX4_hush_44 rfl (lv_at hl 1 rfl) ?_
      refine va_get (D := D) (ci := 4) (v := .ref (A 1)) (C := RX4) (T := TX4) (N := 8) hx hb hts hw4 hown hK hP 0 cX_at0 rfl 0 (by decide) k10 (fun _ h9 => h9) rfl dX4_hush_45 ?_
      refine va_get (D := D) (ci := 0) (v := .ref (A 7)) (C := RX0) (T := TX0) (N := 12) hx hb hts hw0 hown hK hP 1 cX_at1 rfl 7 (by decide) k89 (fun _ h9 => h9) rfl dX4_hush_48 ?_
      refine lv_iload_n hx hb dX4_hush_51 rfl (lv_at hl 3 rfl) ?_
      obtain ⟨c_8, hf⟩ := gi_e hf
      refine va_iald hx hb hK hP 7 0 cX_at7 rfl c_8 dX4_hush_52 ?_
      refine lv_aload_n hx hb dX4_hush_53 rfl (lv_at hl 1 rfl) ?_
      refine va_get (D := D) (ci := 4) (v := .ref (A 1)) (C := RX4) (T := TX4) (N := 8) hx hb hts hw4 hown hK hP 0 cX_at0 rfl 0 (by decide) k10 (fun _ h9 => h9) rfl dX4_hush_54 ?_
      refine lv_iload_n hx hb dX4_hush_57 rfl (lv_at hl 3 rfl) ?_
      obtain ⟨a_9, ha_9, hf⟩ := bd_e hf
      refine Ct.callV (As := [.int q4.2]) (rest := [.int (n 6 (q4.2).toNatClampNeg), .int a_7]) (st1 := [.int a_9, .int (n 6 (q4.2).toNatClampNeg), .int a_7]) (c_X0_worth l D cI (fun j => A (1 + j)) n q4.2 a_9 ha_9) hx hb hml hown hts (cwV 1 hts gX4_hush_X0_worth rfl rfl rfl hd_X0_worth ⟨Nat.le_of_ble_eq_true rfl, Nat.le_of_ble_eq_true rfl⟩) (va_recv hK hP (ci := 0) (q0 := 1) rfl cX_at1) ln_X_H_n hA hK hP hD hS rfl hl.1 rfl rfl (Nat.le_of_ble_eq_true rfl) dX4_hush_58 (fun H locs hP hD hS => ?_)
      refine lv_imul hx hb dX4_hush_61 ?_
      refine lv_isub hx hb dX4_hush_62 ?_
      refine lv_aload_n hx hb dX4_hush_63 rfl (lv_at hl 1 rfl) ?_
      refine va_get (D := D) (ci := 4) (v := .ref (A 1)) (C := RX4) (T := TX4) (N := 8) hx hb hts hw4 hown hK hP 0 cX_at0 rfl 0 (by decide) k10 (fun _ h9 => h9) rfl dX4_hush_64 ?_
      refine lv_iload_n hx hb dX4_hush_67 rfl (lv_at hl 0 rfl) ?_
      obtain ⟨a_10, ha_10, hf⟩ := bd_e hf
      refine Ct.callV (As := [.int v_3]) (rest := [.int (a_7 - ((n 6 (q4.2).toNatClampNeg) * a_9))]) (st1 := [.int a_10, .int (a_7 - ((n 6 (q4.2).toNatClampNeg) * a_9))]) (c_X0_lacks l D cI (fun j => A (1 + j)) n v_3 a_10 ha_10) hx hb hml hown hts (cwV 1 hts gX4_hush_X0_lacks rfl rfl rfl hd_X0_lacks ⟨Nat.le_of_ble_eq_true rfl, Nat.le_of_ble_eq_true rfl⟩) (va_recv hK hP (ci := 0) (q0 := 1) rfl cX_at1) ln_X_H_n hA hK hP hD hS rfl hl.1 rfl rfl (Nat.le_of_ble_eq_true rfl) dX4_hush_68 (fun H locs hP hD hS => ?_)
      refine lv_icmp_ge (tgt := 80) hx hb dX4_hush_71 (by decide) (fun c_11 => ?_) (fun c_11 => ?_)
      · replace hf := if_t c_11 hf
        obtain ⟨v_12, ev_12, hf⟩ := nq_e hf
        refine lv_iinc (v := v_12) (lv' := [(2, .int v_12), (3, .int v_3), (0, .ref (A 0)), (1, .int q4.1)]) hx hb dX4_hush_80 hl (k := 3) rfl (by rw [ev_12]; rfl) (by decide) rfl (fun ls hl => ?_)
        refine lv_goto (tgt := 4) hx hb dX4_hush_83 (by decide) ?_
        exact ih4 (q4.1, v_12) hf H locs ls hP hD hS (lv_sub hl [2, 3, 0] rfl)
      · replace hf := if_f c_11 hf
        refine lv_iload_n hx hb dX4_hush_74 rfl (lv_at hl 2 rfl) ?_
        refine lv_iconst (v := 1) hx hb dX4_hush_75 (by decide) ?_
        refine lv_iload_n hx hb dX4_hush_76 rfl (lv_at hl 3 rfl) ?_
        refine lv_ishl hx hb dX4_hush_77 ?_
        refine lv_ior hx hb dX4_hush_78 ?_
        refine lv_topi (fun v_13 ev_13 => ?_)
        replace hf := nm_at ev_13 hf
        refine lv_istore_n (lv' := [(1, .int v_13), (3, .int v_3), (0, .ref (A 0)), (2, .int q4.2)]) hx hb dX4_hush_79 rfl hl (by decide) rfl (fun ls hl => ?_)
        obtain ⟨v_14, ev_14, hf⟩ := nq_e hf
        refine lv_iinc (v := v_14) (lv' := [(2, .int v_14), (1, .int v_13), (3, .int v_3), (0, .ref (A 0))]) hx hb dX4_hush_80 hl (k := 3) rfl (by rw [ev_14]; rfl) (by decide) rfl (fun ls hl => ?_)
        refine lv_goto (tgt := 4) hx hb dX4_hush_83 (by decide) ?_
        exact ih4 (v_13, v_14) hf H locs ls hP hD hS (lv_sub hl [3, 1, 0] rfl)

def rm_X4_loudest : Room := { frames := 4, cells := 0, slots := 0, locals := 89 }
theorem hd_X4_loudest : yX4_loudest.cls = RX4 ∧ yX4_loudest.cls ≠ "java/lang/invoke/MethodHandle" ∧ yX4_loudest.cls ≠ "java/lang/invoke/VarHandle" ∧ (parseMethodDescriptor yX4_loudest.desc).map (fun d => d.parameters.length) = some 1 := by decide +kernel
set_option maxRecDepth 100000 in
set_option maxHeartbeats 4000000 in
theorem c_X4_loudest (l : Launch) (D : va_G) (cI : ClassId) (A : Nat → Nat) (n : St) (t : St) (k : St) (g : St) (w : St) (z : St) (q : St) (p1 : Int32) (r : Int32 × St × St) (hf : f_X4_loudest n t k g w z q p1 = some r) : Ct l yX4_loudest wsX4_loudest rm_X4_loudest D cI (cX cI A n t k g w z q) (cX cI A n r.2.1 k g w z r.2.2) [.ref (A 0), .int p1] (some (.int r.1)) := by
  unfold f_X4_loudest at hf
  refine Ct.ofI (cc := cX4_loudest) (maxL := 6) (by decide +kernel) rfl (Nat.le_of_ble_eq_true rfl) ?_
  intro p e s m args below meth c AA Q H locs ls hx hb hml hown hts hA hK hP hD hS hl hend0
  have hend : ∀ (r1 : Int32 × St × St) (H : Heap) (locs : List Loc) (pc : Nat) (ls : Array Slot), some r1 = some r → va_P D vwCl (cX cI A n r1.2.1 k g w z r1.2.2) H → va_S AA s.heap H locs → decode cX4_loudest pc = .ok (.ireturn, 1) → W p l e rm_X4_loudest s m args below meth c H locs 0 0 Q (F0 m pc ls [.int r1.1]) := by
    intro r1 H locs pc ls e1 hP hS hd; cases e1; exact hend0 H locs pc ls hP hS hd
  clear hend0
  have hw0 : ∀ w ∈ wsX00, w ∈ wsX4_loudest := by decide +kernel
  have hw4 : ∀ w ∈ wsX40, w ∈ wsX4_loudest := by decide +kernel
  have k10 := hts (.fieldLink RX4 10 "AnchorsForConfession" "now" "LAnchorsForConfession$Harbour;") (by decide +kernel)
  have k16 := hts (.fieldLink RX4 16 "AnchorsForConfession" "thought" "LAnchorsForConfession$Harbour;") (by decide +kernel)
  have k155 := hts (.fieldLink RX4 155 "AnchorsForConfession$Harbour" "men" "I") (by decide +kernel)
  replace hl : lv_has ls 6 [(0, .ref (A 0)), (1, .int p1)] := hl
  refine lv_iload_n hx hb dX4_loudest_0 rfl (lv_at hl 1 rfl) ?_
  refine lv_if_eq (tgt := 16) hx hb dX4_loudest_1 (by decide) (fun c_1 => ?_) (fun c_1 => ?_)
  · replace hf := if_t c_1 hf
    refine lv_bipush (v := -9) hx hb dX4_loudest_16 (by decide +kernel) ?_
    refine lv_istore_n (lv' := [(2, .int (-9 : Int32)), (0, .ref (A 0)), (1, .int p1)]) hx hb dX4_loudest_18 rfl hl (by decide) rfl (fun ls hl => ?_)
    refine lv_bipush (v := -9) hx hb dX4_loudest_19 (by decide +kernel) ?_
    refine lv_istore_n (lv' := [(3, .int (-9 : Int32)), (2, .int (-9 : Int32)), (0, .ref (A 0)), (1, .int p1)]) hx hb dX4_loudest_21 rfl hl (by decide) rfl (fun ls hl => ?_)
    refine lv_iconst (v := 0) hx hb dX4_loudest_22 (by decide) ?_
    refine lv_istore (lv' := [(4, .int (0 : Int32)), (3, .int (-9 : Int32)), (2, .int (-9 : Int32)), (0, .ref (A 0)), (1, .int p1)]) hx hb dX4_loudest_23 hl (by decide) rfl (fun ls hl => ?_)
    refine lp_ind (P := fun (q25 : Int32 × Int32 × Int32 × St) => ∀ (H : Heap) (locs : List Loc) (ls : Array Slot), va_P D vwCl (cX cI A n q25.2.2.2 k g w z q) H → va_D AA (cX cI A n q25.2.2.2 k g w z q) → va_S AA s.heap H locs → lv_has ls 6 [(0, .ref (A 0)), (1, .int p1), (2, .int q25.1), (3, .int q25.2.1), (4, .int q25.2.2.1)] → W p l e rm_X4_loudest s m args below meth c H locs 0 0 Q (F0 m 25 ls [])) hf ?_ H locs ls hP hD hS (lv_sub hl [3, 4, 2, 1, 0] rfl)
    clear hf hP hD hS hl
    intro nx25 ih25 q25 hf H locs ls hP hD hS hl
    refine lv_iload hx hb dX4_loudest_25 (lv_at hl 4 rfl) ?_
    refine lv_aload_n hx hb dX4_loudest_27 rfl (lv_at hl 0 rfl) ?_
    refine va_get (D := D) (ci := 4) (v := .ref (A 1)) (C := RX4) (T := TX4) (N := 8) hx hb hts hw4 hown hK hP 0 cX_at0 rfl 0 (by decide) k10 (fun _ h9 => h9) rfl dX4_loudest_28 ?_
    refine va_get (D := D) (ci := 0) (v := .int (n 16 1)) (C := RX0) (T := TX0) (N := 12) hx hb hts hw0 hown hK hP 1 cX_at1 rfl 4 (by decide) k155 (fun _ h9 => h9) rfl dX4_loudest_31 ?_
    refine lv_icmp_ge (tgt := 94) hx hb dX4_loudest_34 (by decide) (fun c_2 => ?_) (fun c_2 => ?_)
    · replace hf := if_t c_2 hf
      refine lv_iload_n hx hb dX4_loudest_94 rfl (lv_at hl 1 rfl) ?_
      refine lv_if_ne (tgt := 102) hx hb dX4_loudest_95 (by decide) (fun c_3 => ?_) (fun c_3 => ?_)
      · replace hf := if_f c_3 hf
        refine lv_iload_n hx hb dX4_loudest_102 rfl (lv_at hl 3 rfl) ?_
        exact hend (q25.2.1, q25.2.2.2, q) H locs _ _ hf hP hS dX4_loudest_103
      · replace hf := if_t c_3 hf
        refine lv_iload_n hx hb dX4_loudest_98 rfl (lv_at hl 2 rfl) ?_
        refine lv_goto (tgt := 103) hx hb dX4_loudest_99 (by decide) ?_
        exact hend (q25.1, q25.2.2.2, q) H locs _ _ hf hP hS dX4_loudest_103
    · replace hf := if_f c_2 hf
      refine lv_aload_n hx hb dX4_loudest_37 rfl (lv_at hl 0 rfl) ?_
      refine va_get (D := D) (ci := 4) (v := .ref (A 10)) (C := RX4) (T := TX4) (N := 8) hx hb hts hw4 hown hK hP 0 cX_at0 rfl 1 (by decide) k16 (fun _ h9 => h9) rfl dX4_loudest_38 ?_
      refine lv_aload_n hx hb dX4_loudest_41 rfl (lv_at hl 0 rfl) ?_
      refine va_get (D := D) (ci := 4) (v := .ref (A 1)) (C := RX4) (T := TX4) (N := 8) hx hb hts hw4 hown hK hP 0 cX_at0 rfl 0 (by decide) k10 (fun _ h9 => h9) rfl dX4_loudest_42 ?_
      obtain ⟨a_4, ha_4, hf⟩ := bd_e hf
      refine Ct.callV (As := [.ref (A 1)]) (rest := []) (st1 := []) (c_X0_copyFrom l D cI (fun j => A (10 + j)) (fun j => A (1 + j)) q25.2.2.2 n a_4 ha_4) hx hb hml hown hts (cwV 1 hts gX4_loudest_X0_copyFrom rfl rfl rfl hd_X0_copyFrom ⟨Nat.le_of_ble_eq_true rfl, Nat.le_of_ble_eq_true rfl⟩) (va_recv hK hP (ci := 0) (q0 := 10) rfl cX_at10) ln_X_HH_tn hA hK hP hD hS rfl hl.1 rfl rfl (Nat.le_of_ble_eq_true rfl) dX4_loudest_45 (fun H locs hP hD hS => ?_)
      replace hP : va_P D vwCl (cX cI A n a_4 k g w z q) H := hP
      replace hD : va_D AA (cX cI A n a_4 k g w z q) := hD
      refine lv_aload_n hx hb dX4_loudest_48 rfl (lv_at hl 0 rfl) ?_
      refine va_get (D := D) (ci := 4) (v := .ref (A 10)) (C := RX4) (T := TX4) (N := 8) hx hb hts hw4 hown hK hP 0 cX_at0 rfl 1 (by decide) k16 (fun _ h9 => h9) rfl dX4_loudest_49 ?_
      refine lv_iload hx hb dX4_loudest_52 (lv_at hl 4 rfl) ?_
      obtain ⟨a_5, ha_5, hf⟩ := bd_e hf
      refine Ct.callV (As := [.int q25.2.2.1]) (rest := []) (st1 := [.int a_5]) (c_X0_canTell l D cI (fun j => A (10 + j)) a_4 q25.2.2.1 a_5 ha_5) hx hb hml hown hts (cwV 1 hts gX4_loudest_X0_canTell rfl rfl rfl hd_X0_canTell ⟨Nat.le_of_ble_eq_true rfl, Nat.le_of_ble_eq_true rfl⟩) (va_recv hK hP (ci := 0) (q0 := 10) rfl cX_at10) ln_X_H_t hA hK hP hD hS rfl hl.1 rfl rfl (Nat.le_of_ble_eq_true rfl) dX4_loudest_54 (fun H locs hP hD hS => ?_)
      refine lv_if_eq (tgt := 72) hx hb dX4_loudest_57 (by decide) (fun c_6 => ?_) (fun c_6 => ?_)
      · replace hf := if_t c_6 hf
        refine lv_bipush (v := -9) hx hb dX4_loudest_72 (by decide +kernel) ?_
        refine lv_istore (lv' := [(5, .int (-9 : Int32)), (0, .ref (A 0)), (1, .int p1), (2, .int q25.1), (3, .int q25.2.1), (4, .int q25.2.2.1)]) hx hb dX4_loudest_74 hl (by decide) rfl (fun ls hl => ?_)
        refine lv_iload hx hb dX4_loudest_76 (lv_at hl 0 rfl) ?_
        refine lv_iload_n hx hb dX4_loudest_78 rfl (lv_at hl 4 rfl) ?_
        refine lv_icmp_le (tgt := 88) hx hb dX4_loudest_79 (by decide) (fun c_7 => ?_) (fun c_7 => ?_)
        · replace hf := if_t c_7 hf
          obtain ⟨v_8, ev_8, hf⟩ := nq_e hf
          refine lv_iinc (v := v_8) (lv' := [(4, .int v_8), (5, .int (-9 : Int32)), (0, .ref (A 0)), (1, .int p1), (2, .int q25.1), (3, .int q25.2.1)]) hx hb dX4_loudest_88 hl (k := 5) rfl (by rw [ev_8]; rfl) (by decide) rfl (fun ls hl => ?_)
          refine lv_goto (tgt := 25) hx hb dX4_loudest_91 (by decide) ?_
          exact ih25 (q25.1, q25.2.1, v_8, a_4) hf H locs ls hP hD hS (lv_sub hl [2, 3, 4, 5, 0] rfl)
        · replace hf := if_f c_7 hf
          refine lv_iload hx hb dX4_loudest_82 (lv_at hl 0 rfl) ?_
          refine lv_istore_n (lv' := [(3, .int (-9 : Int32)), (5, .int (-9 : Int32)), (0, .ref (A 0)), (1, .int p1), (2, .int q25.1), (4, .int q25.2.2.1)]) hx hb dX4_loudest_84 rfl hl (by decide) rfl (fun ls hl => ?_)
          refine lv_iload hx hb dX4_loudest_85 (lv_at hl 5 rfl) ?_
          refine lv_istore_n (lv' := [(2, .int q25.2.2.1), (3, .int (-9 : Int32)), (5, .int (-9 : Int32)), (0, .ref (A 0)), (1, .int p1), (4, .int q25.2.2.1)]) hx hb dX4_loudest_87 rfl hl (by decide) rfl (fun ls hl => ?_)
          obtain ⟨v_9, ev_9, hf⟩ := nq_e hf
          refine lv_iinc (v := v_9) (lv' := [(4, .int v_9), (2, .int q25.2.2.1), (3, .int (-9 : Int32)), (5, .int (-9 : Int32)), (0, .ref (A 0)), (1, .int p1)]) hx hb dX4_loudest_88 hl (k := 5) rfl (by rw [ev_9]; rfl) (by decide) rfl (fun ls hl => ?_)
          refine lv_goto (tgt := 25) hx hb dX4_loudest_91 (by decide) ?_
          exact ih25 (q25.2.2.1, (-9 : Int32), v_9, a_4) hf H locs ls hP hD hS (lv_sub hl [4, 5, 1, 2, 0] rfl)
      · replace hf := if_f c_6 hf
        refine lv_aload_n hx hb dX4_loudest_60 rfl (lv_at hl 0 rfl) ?_
        refine va_get (D := D) (ci := 4) (v := .ref (A 10)) (C := RX4) (T := TX4) (N := 8) hx hb hts hw4 hown hK hP 0 cX_at0 rfl 1 (by decide) k16 (fun _ h9 => h9) rfl dX4_loudest_61 ?_
        refine lv_iload hx hb dX4_loudest_64 (lv_at hl 4 rfl) ?_
        obtain ⟨a_10, ha_10, hf⟩ := bd_e hf
        refine Ct.callV (As := [.int q25.2.2.1]) (rest := []) (st1 := [.int a_10.1]) (c_X0_word l D cI (fun j => A (10 + j)) a_4 q25.2.2.1 a_10 ha_10) hx hb hml hown hts (cwV 1 hts gX4_loudest_X0_word rfl rfl rfl hd_X0_word ⟨Nat.le_of_ble_eq_true rfl, Nat.le_of_ble_eq_true rfl⟩) (va_recv hK hP (ci := 0) (q0 := 10) rfl cX_at10) ln_X_H_t hA hK hP hD hS rfl hl.1 rfl rfl (Nat.le_of_ble_eq_true rfl) dX4_loudest_66 (fun H locs hP hD hS => ?_)
        replace hP : va_P D vwCl (cX cI A n a_10.2 k g w z q) H := hP
        replace hD : va_D AA (cX cI A n a_10.2 k g w z q) := hD
        refine lv_goto (tgt := 74) hx hb dX4_loudest_69 (by decide) ?_
        refine lv_istore (lv' := [(5, .int a_10.1), (0, .ref (A 0)), (1, .int p1), (2, .int q25.1), (3, .int q25.2.1), (4, .int q25.2.2.1)]) hx hb dX4_loudest_74 hl (by decide) rfl (fun ls hl => ?_)
        refine lv_iload hx hb dX4_loudest_76 (lv_at hl 0 rfl) ?_
        refine lv_iload_n hx hb dX4_loudest_78 rfl (lv_at hl 4 rfl) ?_
        refine lv_icmp_le (tgt := 88) hx hb dX4_loudest_79 (by decide) (fun c_11 => ?_) (fun c_11 => ?_)
        · replace hf := if_t c_11 hf
          obtain ⟨v_12, ev_12, hf⟩ := nq_e hf
          refine lv_iinc (v := v_12) (lv' := [(4, .int v_12), (5, .int a_10.1), (0, .ref (A 0)), (1, .int p1), (2, .int q25.1), (3, .int q25.2.1)]) hx hb dX4_loudest_88 hl (k := 5) rfl (by rw [ev_12]; rfl) (by decide) rfl (fun ls hl => ?_)
          refine lv_goto (tgt := 25) hx hb dX4_loudest_91 (by decide) ?_
          exact ih25 (q25.1, q25.2.1, v_12, a_10.2) hf H locs ls hP hD hS (lv_sub hl [2, 3, 4, 5, 0] rfl)
        · replace hf := if_f c_11 hf
          refine lv_iload hx hb dX4_loudest_82 (lv_at hl 0 rfl) ?_
          refine lv_istore_n (lv' := [(3, .int a_10.1), (5, .int a_10.1), (0, .ref (A 0)), (1, .int p1), (2, .int q25.1), (4, .int q25.2.2.1)]) hx hb dX4_loudest_84 rfl hl (by decide) rfl (fun ls hl => ?_)
          refine lv_iload hx hb dX4_loudest_85 (lv_at hl 5 rfl) ?_
          refine lv_istore_n (lv' := [(2, .int q25.2.2.1), (3, .int a_10.1), (5, .int a_10.1), (0, .ref (A 0)), (1, .int p1), (4, .int q25.2.2.1)]) hx hb dX4_loudest_87 rfl hl (by decide) rfl (fun ls hl => ?_)
          obtain ⟨v_13, ev_13, hf⟩ := nq_e hf
          refine lv_iinc (v := v_13) (lv' := [(4, .int v_13), (2, .int q25.2.2.1), (3, .int a_10.1), (5, .int a_10.1), (0, .ref (A 0)), (1, .int p1)]) hx hb dX4_loudest_88 hl (k := 5) rfl (by rw [ev_13]; rfl) (by decide) rfl (fun ls hl => ?_)
          refine lv_goto (tgt := 25) hx hb dX4_loudest_91 (by decide) ?_
          exact ih25 (q25.2.2.1, a_10.1, v_13, a_10.2) hf H locs ls hP hD hS (lv_sub hl [4, 5, 1, 2, 0] rfl)
  · replace hf := if_f c_1 hf
    refine lv_iload_n hx hb dX4_loudest_4 rfl (lv_at hl 1 rfl) ?_
    refine lv_iconst (v := 1) hx hb dX4_loudest_5 (by decide) ?_
    refine lv_icmp_eq (tgt := 16) hx hb dX4_loudest_6 (by decide) (fun c_14 => ?_) (fun c_14 => ?_)
    · replace hf := if_t c_14 hf
      refine lv_bipush (v := -9) hx hb dX4_loudest_16 (by decide +kernel) ?_
      refine lv_istore_n (lv' := [(2, .int (-9 : Int32)), (0, .ref (A 0)), (1, .int p1)]) hx hb dX4_loudest_18 rfl hl (by decide) rfl (fun ls hl => ?_)
      refine lv_bipush (v := -9) hx hb dX4_loudest_19 (by decide +kernel) ?_
      refine lv_istore_n (lv' := [(3, .int (-9 : Int32)), (2, .int (-9 : Int32)), (0, .ref (A 0)), (1, .int p1)]) hx hb dX4_loudest_21 rfl hl (by decide) rfl (fun ls hl => ?_)
      refine lv_iconst (v := 0) hx hb dX4_loudest_22 (by decide) ?_
      refine lv_istore (lv' := [(4, .int (0 : Int32)), (3, .int (-9 : Int32)), (2, .int (-9 : Int32)), (0, .ref (A 0)), (1, .int p1)]) hx hb dX4_loudest_23 hl (by decide) rfl (fun ls hl => ?_)
      refine lp_ind (P := fun (q25 : Int32 × Int32 × Int32 × St) => ∀ (H : Heap) (locs : List Loc) (ls : Array Slot), va_P D vwCl (cX cI A n q25.2.2.2 k g w z q) H → va_D AA (cX cI A n q25.2.2.2 k g w z q) → va_S AA s.heap H locs → lv_has ls 6 [(0, .ref (A 0)), (1, .int p1), (2, .int q25.1), (3, .int q25.2.1), (4, .int q25.2.2.1)] → W p l e rm_X4_loudest s m args below meth c H locs 0 0 Q (F0 m 25 ls [])) hf ?_ H locs ls hP hD hS (lv_sub hl [3, 4, 2, 1, 0] rfl)
      clear hf hP hD hS hl
      intro nx25 ih25 q25 hf H locs ls hP hD hS hl
      refine lv_iload hx hb dX4_loudest_25 (lv_at hl 4 rfl) ?_
      refine lv_aload_n hx hb dX4_loudest_27 rfl (lv_at hl 0 rfl) ?_
      refine va_get (D := D) (ci := 4) (v := .ref (A 1)) (C := RX4) (T := TX4) (N := 8) hx hb hts hw4 hown hK hP 0 cX_at0 rfl 0 (by decide) k10 (fun _ h9 => h9) rfl dX4_loudest_28 ?_
      refine va_get (D := D) (ci := 0) (v := .int (n 16 1)) (C := RX0) (T := TX0) (N := 12) hx hb hts hw0 hown hK hP 1 cX_at1 rfl 4 (by decide) k155 (fun _ h9 => h9) rfl dX4_loudest_31 ?_
      refine lv_icmp_ge (tgt := 94) hx hb dX4_loudest_34 (by decide) (fun c_15 => ?_) (fun c_15 => ?_)
      · replace hf := if_t c_15 hf
        refine lv_iload_n hx hb dX4_loudest_94 rfl (lv_at hl 1 rfl) ?_
        refine lv_if_ne (tgt := 102) hx hb dX4_loudest_95 (by decide) (fun c_16 => ?_) (fun c_16 => ?_)
        · replace hf := if_f c_16 hf
          refine lv_iload_n hx hb dX4_loudest_102 rfl (lv_at hl 3 rfl) ?_
          exact hend (q25.2.1, q25.2.2.2, q) H locs _ _ hf hP hS dX4_loudest_103
        · replace hf := if_t c_16 hf
          refine lv_iload_n hx hb dX4_loudest_98 rfl (lv_at hl 2 rfl) ?_
          refine lv_goto (tgt := 103) hx hb dX4_loudest_99 (by decide) ?_
          exact hend (q25.1, q25.2.2.2, q) H locs _ _ hf hP hS dX4_loudest_103
      · replace hf := if_f c_15 hf
        refine lv_aload_n hx hb dX4_loudest_37 rfl (lv_at hl 0 rfl) ?_
        refine va_get (D := D) (ci := 4) (v := .ref (A 10)) (C := RX4) (T := TX4) (N := 8) hx hb hts hw4 hown hK hP 0 cX_at0 rfl 1 (by decide) k16 (fun _ h9 => h9) rfl dX4_loudest_38 ?_
        refine lv_aload_n hx hb dX4_loudest_41 rfl (lv_at hl 0 rfl) ?_
        refine va_get (D := D) (ci := 4) (v := .ref (A 1)) (C := RX4) (T := TX4) (N := 8) hx hb hts hw4 hown hK hP 0 cX_at0 rfl 0 (by decide) k10 (fun _ h9 => h9) rfl dX4_loudest_42 ?_
        obtain ⟨a_17, ha_17, hf⟩ := bd_e hf
        refine Ct.callV (As := [.ref (A 1)]) (rest := []) (st1 := []) (c_X0_copyFrom l D cI (fun j => A (10 + j)) (fun j => A (1 + j)) q25.2.2.2 n a_17 ha_17) hx hb hml hown hts (cwV 1 hts gX4_loudest_X0_copyFrom rfl rfl rfl hd_X0_copyFrom ⟨Nat.le_of_ble_eq_true rfl, Nat.le_of_ble_eq_true rfl⟩) (va_recv hK hP (ci := 0) (q0 := 10) rfl cX_at10) ln_X_HH_tn hA hK hP hD hS rfl hl.1 rfl rfl (Nat.le_of_ble_eq_true rfl) dX4_loudest_45 (fun H locs hP hD hS => ?_)
        replace hP : va_P D vwCl (cX cI A n a_17 k g w z q) H := hP
        replace hD : va_D AA (cX cI A n a_17 k g w z q) := hD
        refine lv_aload_n hx hb dX4_loudest_48 rfl (lv_at hl 0 rfl) ?_
        refine va_get (D := D) (ci := 4) (v := .ref (A 10)) (C := RX4) (T := TX4) (N := 8) hx hb hts hw4 hown hK hP 0 cX_at0 rfl 1 (by decide) k16 (fun _ h9 => h9) rfl dX4_loudest_49 ?_
        refine lv_iload hx hb dX4_loudest_52 (lv_at hl 4 rfl) ?_
        obtain ⟨a_18, ha_18, hf⟩ := bd_e hf
        refine Ct.callV (As := [.int q25.2.2.1]) (rest := []) (st1 := [.int a_18]) (c_X0_canTell l D cI (fun j => A (10 + j)) a_17 q25.2.2.1 a_18 ha_18) hx hb hml hown hts (cwV 1 hts gX4_loudest_X0_canTell rfl rfl rfl hd_X0_canTell ⟨Nat.le_of_ble_eq_true rfl, Nat.le_of_ble_eq_true rfl⟩) (va_recv hK hP (ci := 0) (q0 := 10) rfl cX_at10) ln_X_H_t hA hK hP hD hS rfl hl.1 rfl rfl (Nat.le_of_ble_eq_true rfl) dX4_loudest_54 (fun H locs hP hD hS => ?_)
        refine lv_if_eq (tgt := 72) hx hb dX4_loudest_57 (by decide) (fun c_19 => ?_) (fun c_19 => ?_)
        · replace hf := if_t c_19 hf
          refine lv_bipush (v := -9) hx hb dX4_loudest_72 (by decide +kernel) ?_
          refine lv_istore (lv' := [(5, .int (-9 : Int32)), (0, .ref (A 0)), (1, .int p1), (2, .int q25.1), (3, .int q25.2.1), (4, .int q25.2.2.1)]) hx hb dX4_loudest_74 hl (by decide) rfl (fun ls hl => ?_)
          refine lv_iload hx hb dX4_loudest_76 (lv_at hl 0 rfl) ?_
          refine lv_iload_n hx hb dX4_loudest_78 rfl (lv_at hl 4 rfl) ?_
          refine lv_icmp_le (tgt := 88) hx hb dX4_loudest_79 (by decide) (fun c_20 => ?_) (fun c_20 => ?_)
          · replace hf := if_t c_20 hf
            obtain ⟨v_21, ev_21, hf⟩ := nq_e hf
            refine lv_iinc (v := v_21) (lv' := [(4, .int v_21), (5, .int (-9 : Int32)), (0, .ref (A 0)), (1, .int p1), (2, .int q25.1), (3, .int q25.2.1)]) hx hb dX4_loudest_88 hl (k := 5) rfl (by rw [ev_21]; rfl) (by decide) rfl (fun ls hl => ?_)
            refine lv_goto (tgt := 25) hx hb dX4_loudest_91 (by decide) ?_
            exact ih25 (q25.1, q25.2.1, v_21, a_17) hf H locs ls hP hD hS (lv_sub hl [2, 3, 4, 5, 0] rfl)
          · replace hf := if_f c_20 hf
            refine lv_iload hx hb dX4_loudest_82 (lv_at hl 0 rfl) ?_
            refine lv_istore_n (lv' := [(3, .int (-9 : Int32)), (5, .int (-9 : Int32)), (0, .ref (A 0)), (1, .int p1), (2, .int q25.1), (4, .int q25.2.2.1)]) hx hb dX4_loudest_84 rfl hl (by decide) rfl (fun ls hl => ?_)
            refine lv_iload hx hb dX4_loudest_85 (lv_at hl 5 rfl) ?_
            refine lv_istore_n (lv' := [(2, .int q25.2.2.1), (3, .int (-9 : Int32)), (5, .int (-9 : Int32)), (0, .ref (A 0)), (1, .int p1), (4, .int q25.2.2.1)]) hx hb dX4_loudest_87 rfl hl (by decide) rfl (fun ls hl => ?_)
            obtain ⟨v_22, ev_22, hf⟩ := nq_e hf
            refine lv_iinc (v := v_22) (lv' := [(4, .int v_22), (2, .int q25.2.2.1), (3, .int (-9 : Int32)), (5, .int (-9 : Int32)), (0, .ref (A 0)), (1, .int p1)]) hx hb dX4_loudest_88 hl (k := 5) rfl (by rw [ev_22]; rfl) (by decide) rfl (fun ls hl => ?_)
            refine lv_goto (tgt := 25) hx hb dX4_loudest_91 (by decide) ?_
            exact ih25 (q25.2.2.1, (-9 : Int32), v_22, a_17) hf H locs ls hP hD hS (lv_sub hl [4, 5, 1, 2, 0] rfl)
        · replace hf := if_f c_19 hf
          refine lv_aload_n hx hb dX4_loudest_60 rfl (lv_at hl 0 rfl) ?_
          refine va_get (D := D) (ci := 4) (v := .ref (A 10)) (C := RX4) (T := TX4) (N := 8) hx hb hts hw4 hown hK hP 0 cX_at0 rfl 1 (by decide) k16 (fun _ h9 => h9) rfl dX4_loudest_61 ?_
          refine lv_iload hx hb dX4_loudest_64 (lv_at hl 4 rfl) ?_
          obtain ⟨a_23, ha_23, hf⟩ := bd_e hf
          refine Ct.callV (As := [.int q25.2.2.1]) (rest := []) (st1 := [.int a_23.1]) (c_X0_word l D cI (fun j => A (10 + j)) a_17 q25.2.2.1 a_23 ha_23) hx hb hml hown hts (cwV 1 hts gX4_loudest_X0_word rfl rfl rfl hd_X0_word ⟨Nat.le_of_ble_eq_true rfl, Nat.le_of_ble_eq_true rfl⟩) (va_recv hK hP (ci := 0) (q0 := 10) rfl cX_at10) ln_X_H_t hA hK hP hD hS rfl hl.1 rfl rfl (Nat.le_of_ble_eq_true rfl) dX4_loudest_66 (fun H locs hP hD hS => ?_)
          replace hP : va_P D vwCl (cX cI A n a_23.2 k g w z q) H := hP
          replace hD : va_D AA (cX cI A n a_23.2 k g w z q) := hD
          refine lv_goto (tgt := 74) hx hb dX4_loudest_69 (by decide) ?_
          refine lv_istore (lv' := [(5, .int a_23.1), (0, .ref (A 0)), (1, .int p1), (2, .int q25.1), (3, .int q25.2.1), (4, .int q25.2.2.1)]) hx hb dX4_loudest_74 hl (by decide) rfl (fun ls hl => ?_)
          refine lv_iload hx hb dX4_loudest_76 (lv_at hl 0 rfl) ?_
          refine lv_iload_n hx hb dX4_loudest_78 rfl (lv_at hl 4 rfl) ?_
          refine lv_icmp_le (tgt := 88) hx hb dX4_loudest_79 (by decide) (fun c_24 => ?_) (fun c_24 => ?_)
          · replace hf := if_t c_24 hf
            obtain ⟨v_25, ev_25, hf⟩ := nq_e hf
            refine lv_iinc (v := v_25) (lv' := [(4, .int v_25), (5, .int a_23.1), (0, .ref (A 0)), (1, .int p1), (2, .int q25.1), (3, .int q25.2.1)]) hx hb dX4_loudest_88 hl (k := 5) rfl (by rw [ev_25]; rfl) (by decide) rfl (fun ls hl => ?_)
            refine lv_goto (tgt := 25) hx hb dX4_loudest_91 (by decide) ?_
            exact ih25 (q25.1, q25.2.1, v_25, a_23.2) hf H locs ls hP hD hS (lv_sub hl [2, 3, 4, 5, 0] rfl)
          · replace hf := if_f c_24 hf
            refine lv_iload hx hb dX4_loudest_82 (lv_at hl 0 rfl) ?_
            refine lv_istore_n (lv' := [(3, .int a_23.1), (5, .int a_23.1), (0, .ref (A 0)), (1, .int p1), (2, .int q25.1), (4, .int q25.2.2.1)]) hx hb dX4_loudest_84 rfl hl (by decide) rfl (fun ls hl => ?_)
            refine lv_iload hx hb dX4_loudest_85 (lv_at hl 5 rfl) ?_
            refine lv_istore_n (lv' := [(2, .int q25.2.2.1), (3, .int a_23.1), (5, .int a_23.1), (0, .ref (A 0)), (1, .int p1), (4, .int q25.2.2.1)]) hx hb dX4_loudest_87 rfl hl (by decide) rfl (fun ls hl => ?_)
            obtain ⟨v_26, ev_26, hf⟩ := nq_e hf
            refine lv_iinc (v := v_26) (lv' := [(4, .int v_26), (2, .int q25.2.2.1), (3, .int a_23.1), (5, .int a_23.1), (0, .ref (A 0)), (1, .int p1)]) hx hb dX4_loudest_88 hl (k := 5) rfl (by rw [ev_26]; rfl) (by decide) rfl (fun ls hl => ?_)
            refine lv_goto (tgt := 25) hx hb dX4_loudest_91 (by decide) ?_
            exact ih25 (q25.2.2.1, a_23.1, v_26, a_23.2) hf H locs ls hP hD hS (lv_sub hl [4, 5, 1, 2, 0] rfl)
    · replace hf := if_f c_14 hf
      refine lv_aload_n hx hb dX4_loudest_9 rfl (lv_at hl 0 rfl) ?_
      refine lv_bipush (v := -2) hx hb dX4_loudest_10 (by decide +kernel) ?_
      obtain ⟨a_27, ha_27, hf⟩ := bd_e hf
      refine Ct.callV (As := [.int (-2 : Int32)]) (rest := []) (st1 := [.int a_27.1]) (c_X4_refused l D cI A n t k g w z q (-2 : Int32) a_27 ha_27) hx hb hml hown hts (cwV 1 hts gX4_loudest_X4_refused rfl rfl rfl hd_X4_refused ⟨Nat.le_of_ble_eq_true rfl, Nat.le_of_ble_eq_true rfl⟩) (va_recv hK hP (ci := 4) (q0 := 0) rfl cX_at0) (Ln.id rfl) hA hK hP hD hS rfl hl.1 rfl rfl (Nat.le_of_ble_eq_true rfl) dX4_loudest_12 (fun H locs hP hD hS => ?_)
      replace hP : va_P D vwCl (cX cI A n t k g w z a_27.2) H := hP
      replace hD : va_D AA (cX cI A n t k g w z a_27.2) := hD
      exact hend (a_27.1, t, a_27.2) H locs _ _ hf hP hS dX4_loudest_15
