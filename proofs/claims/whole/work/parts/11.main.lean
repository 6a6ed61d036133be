def f_X4_refused (n : St) (t : St) (k : St) (g : St) (w : St) (z : St) (q : St) (p1 : Int32) : Option (Int32 × St) := (nm (-p1) fun v_1 => (if v_1 < 0 then (some (p1, q)) else (if (7 : Int32) ≤ v_1 then (some (p1, q)) else (gi v_1 7 (gi v_1 7 (nm (su q 0 (v_1).toNatClampNeg ((q 0 (v_1).toNatClampNeg) + (1 : Int32))) fun h_6 => (some (p1, h_6))))))))
def rm_X4_refused : Room := { frames := 0, cells := 0, slots := 0, locals := 0 }
theorem hd_X4_refused : yX4_refused.cls = RX4 ∧ yX4_refused.cls ≠ "java/lang/invoke/MethodHandle" ∧ yX4_refused.cls ≠ "java/lang/invoke/VarHandle" ∧ (parseMethodDescriptor yX4_refused.desc).map (fun d => d.parameters.length) = some 1 := by decide +kernel
set_option maxRecDepth 100000 in
set_option maxHeartbeats 4000000 in
theorem c_X4_refused (l : Launch) (D : va_G) (cI : ClassId) (A : Nat → Nat) (n : St) (t : St) (k : St) (g : St) (w : St) (z : St) (q : St) (p1 : Int32) (r : Int32 × St) (hf : f_X4_refused n t k g w z q p1 = some r) : Ct l yX4_refused wsX4_refused rm_X4_refused D cI (cX cI A n t k g w z q) (cX cI A n t k g w z r.2) [.ref (A 0), .int p1] (some (.int r.1)) := by
  unfold f_X4_refused at hf
  refine Ct.ofI (cc := cX4_refused) (maxL := 3) (by decide +kernel) rfl (Nat.le_of_ble_eq_true rfl) ?_
  intro p e s m args below meth c AA Q H locs ls hx hb hml hown hts hA hK hP hD hS hl hend0
  have hend : ∀ (r1 : Int32 × St) (H : Heap) (locs : List Loc) (pc : Nat) (ls : Array Slot), some r1 = some r → va_P D vwCl (cX cI A n t k g w z r1.2) H → va_S AA s.heap H locs → decode cX4_refused pc = .ok (.ireturn, 1) → W p l e rm_X4_refused s m args below meth c H locs 0 0 Q (F0 m pc ls [.int r1.1]) := by
    intro r1 H locs pc ls e1 hP hS hd; cases e1; exact hend0 H locs pc ls hP hS hd
  clear hend0
  have hw4 : ∀ w ∈ wsX40, w ∈ wsX4_refused := by decide +kernel
  have k43 := hts (.fieldLink RX4 43 "AnchorsForConfession" "refusals" "[I") (by decide +kernel)
  replace hl : lv_has ls 3 [(0, .ref (A 0)), (1, .int p1)] := hl
  refine lv_iload_n hx hb dX4_refused_0 rfl (lv_at hl 1 rfl) ?_
  refine lv_ineg hx hb dX4_refused_1 ?_
  refine lv_topi (fun v_1 ev_1 => ?_)
  replace hf := nm_at ev_1 hf
  refine lv_istore_n (lv' := [(2, .int v_1), (0, .ref (A 0)), (1, .int p1)]) hx hb dX4_refused_2 rfl hl (by decide) rfl (fun ls hl => ?_)
  refine lv_iload_n hx hb dX4_refused_3 rfl (lv_at hl 0 rfl) ?_
  refine lv_if_lt (tgt := 26) hx hb dX4_refused_4 (by decide) (fun c_2 => ?_) (fun c_2 => ?_)
  · replace hf := if_t c_2 hf
    refine lv_iload_n hx hb dX4_refused_26 rfl (lv_at hl 2 rfl) ?_
    exact hend (p1, q) H locs _ _ hf hP hS dX4_refused_27
  · replace hf := if_f c_2 hf
    refine lv_iload_n hx hb dX4_refused_7 rfl (lv_at hl 0 rfl) ?_
    refine lv_aload_n hx hb dX4_refused_8 rfl (lv_at hl 1 rfl) ?_
    refine va_get (D := D) (ci := 4) (v := .ref (A 33)) (C := RX4) (T := TX4) (N := 8) hx hb hts hw4 hown hK hP 0 cX_at0 rfl 6 (by decide) k43 (fun _ h9 => h9) rfl dX4_refused_9 ?_
    refine va_alen hx hb hK hP 33 0 cX_at33 rfl (v := 7) (by decide +kernel) dX4_refused_12 ?_
    refine lv_icmp_ge (tgt := 26) hx hb dX4_refused_13 (by decide) (fun c_3 => ?_) (fun c_3 => ?_)
    · replace hf := if_t c_3 hf
      refine lv_iload_n hx hb dX4_refused_26 rfl (lv_at hl 2 rfl) ?_
      exact hend (p1, q) H locs _ _ hf hP hS dX4_refused_27
    · replace hf := if_f c_3 hf
      refine lv_aload_n hx hb dX4_refused_16 rfl (lv_at hl 1 rfl) ?_
      refine va_get (D := D) (ci := 4) (v := .ref (A 33)) (C := RX4) (T := TX4) (N := 8) hx hb hts hw4 hown hK hP 0 cX_at0 rfl 6 (by decide) k43 (fun _ h9 => h9) rfl dX4_refused_17 ?_
      refine lv_iload_n hx hb dX4_refused_20 rfl (lv_at hl 0 rfl) ?_
      refine lv_dup2_11 hx hb dX4_refused_21 rfl rfl ?_
      obtain ⟨c_4, hf⟩ := gi_e hf
      refine va_iald hx hb hK hP 33 0 cX_at33 rfl c_4 dX4_refused_22 ?_
      refine lv_iconst (v := 1) hx hb dX4_refused_23 (by decide) ?_
      refine lv_iadd hx hb dX4_refused_24 ?_
      obtain ⟨c_5, hf⟩ := gi_e hf
      refine va_iast hx hb hK hP hD hS 33 0 cX_at33 rfl c_5 dX4_refused_25 (fun H locs hP hD hS => ?_)
      obtain ⟨h_6, eh_6, hf⟩ := nm_e hf
      rw [cX_su33, ← eh_6] at hP hD
      refine lv_iload_n hx hb dX4_refused_26 rfl (lv_at hl 2 rfl) ?_
      exact hend (p1, h_6) H locs _ _ hf hP hS dX4_refused_27

def f_X4_letter (n : St) (t : St) (k : St) (g : St) (w : St) (z : St) (q : St) (p1 : Int32) : Option (Int32 × St × St) := (if 0 ≤ p1 then (if (255 : Int32) < p1 then (bd (f_X4_refused n t k g w z q (-6 : Int32)) fun a_3 => (some (a_3.1, g, a_3.2))) else (bd (f_X1_isFull g) fun a_4 => (if a_4 = 0 then (bd (f_X1_add g p1) fun a_6 => (some (a_6.1, a_6.2, q))) else (bd (f_X4_refused n t k g w z q (-6 : Int32)) fun a_7 => (some (a_7.1, g, a_7.2)))))) else (bd (f_X4_refused n t k g w z q (-4 : Int32)) fun a_8 => (some (a_8.1, g, a_8.2))))
def rm_X4_letter : Room := { frames := 1, cells := 0, slots := 0, locals := 22 }
theorem hd_X4_letter : yX4_letter.cls = RX4 ∧ yX4_letter.cls ≠ "java/lang/invoke/MethodHandle" ∧ yX4_letter.cls ≠ "java/lang/invoke/VarHandle" ∧ (parseMethodDescriptor yX4_letter.desc).map (fun d => d.parameters.length) = some 1 := by decide +kernel
set_option maxRecDepth 100000 in
set_option maxHeartbeats 4000000 in
theorem c_X4_letter (l : Launch) (D : va_G) (cI : ClassId) (A : Nat → Nat) (n : St) (t : St) (k : St) (g : St) (w : St) (z : St) (q : St) (p1 : Int32) (r : Int32 × St × St) (hf : f_X4_letter n t k g w z q p1 = some r) : Ct l yX4_letter wsX4_letter rm_X4_letter D cI (cX cI A n t k g w z q) (cX cI A n t k r.2.1 w z r.2.2) [.ref (A 0), .int p1] (some (.int r.1)) := by
  unfold f_X4_letter at hf
  refine Ct.ofI (cc := cX4_letter) (maxL := 2) (by decide +kernel) rfl (Nat.le_of_ble_eq_true rfl) ?_
  intro p e s m args below meth c AA Q H locs ls hx hb hml hown hts hA hK hP hD hS hl hend0
  have hend : ∀ (r1 : Int32 × St × St) (H : Heap) (locs : List Loc) (pc : Nat) (ls : Array Slot), some r1 = some r → va_P D vwCl (cX cI A n t k r1.2.1 w z r1.2.2) H → va_S AA s.heap H locs → decode cX4_letter pc = .ok (.ireturn, 1) → W p l e rm_X4_letter s m args below meth c H locs 0 0 Q (F0 m pc ls [.int r1.1]) := by
    intro r1 H locs pc ls e1 hP hS hd; cases e1; exact hend0 H locs pc ls hP hS hd
  clear hend0
  have hw4 : ∀ w ∈ wsX40, w ∈ wsX4_letter := by decide +kernel
  have k25 := hts (.fieldLink RX4 25 "AnchorsForConfession" "letters" "LAnchorsForConfession$Letters;") (by decide +kernel)
  replace hl : lv_has ls 2 [(0, .ref (A 0)), (1, .int p1)] := hl
  refine lv_iload_n hx hb dX4_letter_0 rfl (lv_at hl 1 rfl) ?_
  refine lv_if_ge (tgt := 11) hx hb dX4_letter_1 (by decide) (fun c_1 => ?_) (fun c_1 => ?_)
  · replace hf := if_t c_1 hf
    refine lv_iload_n hx hb dX4_letter_11 rfl (lv_at hl 1 rfl) ?_
    refine lv_sipush (v := 255) hx hb dX4_letter_12 (by decide +kernel) ?_
    refine lv_icmp_gt (tgt := 28) hx hb dX4_letter_15 (by decide) (fun c_2 => ?_) (fun c_2 => ?_)
    · replace hf := if_t c_2 hf
      refine lv_aload_n hx hb dX4_letter_28 rfl (lv_at hl 0 rfl) ?_
      refine lv_bipush (v := -6) hx hb dX4_letter_29 (by decide +kernel) ?_
      obtain ⟨a_3, ha_3, hf⟩ := bd_e hf
      refine Ct.callV (As := [.int (-6 : Int32)]) (rest := []) (st1 := [.int a_3.1]) (c_X4_refused l D cI A n t k g w z q (-6 : Int32) a_3 ha_3) hx hb hml hown hts (cwV 1 hts gX4_letter_X4_refused rfl rfl rfl hd_X4_refused ⟨Nat.le_of_ble_eq_true rfl, Nat.le_of_ble_eq_true rfl⟩) (va_recv hK hP (ci := 4) (q0 := 0) rfl cX_at0) (Ln.id rfl) hA hK hP hD hS rfl hl.1 rfl rfl (Nat.le_of_ble_eq_true rfl) dX4_letter_31 (fun H locs hP hD hS => ?_)
      replace hP : va_P D vwCl (cX cI A n t k g w z a_3.2) H := hP
      replace hD : va_D AA (cX cI A n t k g w z a_3.2) := hD
      exact hend (a_3.1, g, a_3.2) H locs _ _ hf hP hS dX4_letter_34
    · replace hf := if_f c_2 hf
      refine lv_aload_n hx hb dX4_letter_18 rfl (lv_at hl 0 rfl) ?_
      refine va_get (D := D) (ci := 4) (v := .ref (A 28)) (C := RX4) (T := TX4) (N := 8) hx hb hts hw4 hown hK hP 0 cX_at0 rfl 3 (by decide) k25 (fun _ h9 => h9) rfl dX4_letter_19 ?_
      obtain ⟨a_4, ha_4, hf⟩ := bd_e hf
      refine Ct.callV (As := []) (rest := []) (st1 := [.int a_4]) (c_X1_isFull l D cI (fun j => A (28 + j)) g a_4 ha_4) hx hb hml hown hts (cwV 0 hts gX4_letter_X1_isFull rfl rfl rfl hd_X1_isFull ⟨Nat.le_of_ble_eq_true rfl, Nat.le_of_ble_eq_true rfl⟩) (va_recv hK hP (ci := 1) (q0 := 28) rfl cX_at28) ln_X_G hA hK hP hD hS rfl hl.1 rfl rfl (Nat.le_of_ble_eq_true rfl) dX4_letter_22 (fun H locs hP hD hS => ?_)
      refine lv_if_eq (tgt := 35) hx hb dX4_letter_25 (by decide) (fun c_5 => ?_) (fun c_5 => ?_)
      · replace hf := if_t c_5 hf
        refine lv_aload_n hx hb dX4_letter_35 rfl (lv_at hl 0 rfl) ?_
        refine va_get (D := D) (ci := 4) (v := .ref (A 28)) (C := RX4) (T := TX4) (N := 8) hx hb hts hw4 hown hK hP 0 cX_at0 rfl 3 (by decide) k25 (fun _ h9 => h9) rfl dX4_letter_36 ?_
        refine lv_iload_n hx hb dX4_letter_39 rfl (lv_at hl 1 rfl) ?_
        obtain ⟨a_6, ha_6, hf⟩ := bd_e hf
        refine Ct.callV (As := [.int p1]) (rest := []) (st1 := [.int a_6.1]) (c_X1_add l D cI (fun j => A (28 + j)) g p1 a_6 ha_6) hx hb hml hown hts (cwV 1 hts gX4_letter_X1_add rfl rfl rfl hd_X1_add ⟨Nat.le_of_ble_eq_true rfl, Nat.le_of_ble_eq_true rfl⟩) (va_recv hK hP (ci := 1) (q0 := 28) rfl cX_at28) ln_X_G hA hK hP hD hS rfl hl.1 rfl rfl (Nat.le_of_ble_eq_true rfl) dX4_letter_40 (fun H locs hP hD hS => ?_)
        replace hP : va_P D vwCl (cX cI A n t k a_6.2 w z q) H := hP
        replace hD : va_D AA (cX cI A n t k a_6.2 w z q) := hD
        exact hend (a_6.1, a_6.2, q) H locs _ _ hf hP hS dX4_letter_43
      · replace hf := if_f c_5 hf
        refine lv_aload_n hx hb dX4_letter_28 rfl (lv_at hl 0 rfl) ?_
        refine lv_bipush (v := -6) hx hb dX4_letter_29 (by decide +kernel) ?_
        obtain ⟨a_7, ha_7, hf⟩ := bd_e hf
        refine Ct.callV (As := [.int (-6 : Int32)]) (rest := []) (st1 := [.int a_7.1]) (c_X4_refused l D cI A n t k g w z q (-6 : Int32) a_7 ha_7) hx hb hml hown hts (cwV 1 hts gX4_letter_X4_refused rfl rfl rfl hd_X4_refused ⟨Nat.le_of_ble_eq_true rfl, Nat.le_of_ble_eq_true rfl⟩) (va_recv hK hP (ci := 4) (q0 := 0) rfl cX_at0) (Ln.id rfl) hA hK hP hD hS rfl hl.1 rfl rfl (Nat.le_of_ble_eq_true rfl) dX4_letter_31 (fun H locs hP hD hS => ?_)
        replace hP : va_P D vwCl (cX cI A n t k g w z a_7.2) H := hP
        replace hD : va_D AA (cX cI A n t k g w z a_7.2) := hD
        exact hend (a_7.1, g, a_7.2) H locs _ _ hf hP hS dX4_letter_34
  · replace hf := if_f c_1 hf
    refine lv_aload_n hx hb dX4_letter_4 rfl (lv_at hl 0 rfl) ?_
    refine lv_bipush (v := -4) hx hb dX4_letter_5 (by decide +kernel) ?_
    obtain ⟨a_8, ha_8, hf⟩ := bd_e hf
    refine Ct.callV (As := [.int (-4 : Int32)]) (rest := []) (st1 := [.int a_8.1]) (c_X4_refused l D cI A n t k g w z q (-4 : Int32) a_8 ha_8) hx hb hml hown hts (cwV 1 hts gX4_letter_X4_refused rfl rfl rfl hd_X4_refused ⟨Nat.le_of_ble_eq_true rfl, Nat.le_of_ble_eq_true rfl⟩) (va_recv hK hP (ci := 4) (q0 := 0) rfl cX_at0) (Ln.id rfl) hA hK hP hD hS rfl hl.1 rfl rfl (Nat.le_of_ble_eq_true rfl) dX4_letter_7 (fun H locs hP hD hS => ?_)
    replace hP : va_P D vwCl (cX cI A n t k g w z a_8.2) H := hP
    replace hD : va_D AA (cX cI A n t k g w z a_8.2) := hD
    exact hend (a_8.1, g, a_8.2) H locs _ _ hf hP hS dX4_letter_10

def f_X4_harbour (n : St) (t : St) (k : St) (g : St) (w : St) (z : St) (q : St) : Option (Int32 × St × St × St) := (bd (f_X0_copyFrom t n) fun a_1 => (bd (f_X1_play g a_1) fun a_2 => (bd (f_X1_drop g) fun a_3 => (if a_2.1 ≤ 0 then (some (a_2.1, n, a_2.2, a_3)) else (bd (f_X0_copyFrom n a_2.2) fun a_5 => (some (a_2.1, a_5, a_2.2, a_3)))))))
def rm_X4_harbour : Room := { frames := 7, cells := 0, slots := 0, locals := 285 }
theorem hd_X4_harbour : yX4_harbour.cls = RX4 ∧ yX4_harbour.cls ≠ "java/lang/invoke/MethodHandle" ∧ yX4_harbour.cls ≠ "java/lang/invoke/VarHandle" ∧ (parseMethodDescriptor yX4_harbour.desc).map (fun d => d.parameters.length) = some 0 := by decide +kernel
set_option maxRecDepth 100000 in
set_option maxHeartbeats 4000000 in
theorem c_X4_harbour (l : Launch) (D : va_G) (cI : ClassId) (A : Nat → Nat) (n : St) (t : St) (k : St) (g : St) (w : St) (z : St) (q : St) (r : Int32 × St × St × St) (hf : f_X4_harbour n t k g w z q = some r) : Ct l yX4_harbour wsX4_harbour rm_X4_harbour D cI (cX cI A n t k g w z q) (cX cI A r.2.1 r.2.2.1 k r.2.2.2 w z q) [.ref (A 0)] (some (.int r.1)) := by
  unfold f_X4_harbour at hf
  refine Ct.ofI (cc := cX4_harbour) (maxL := 2) (by decide +kernel) rfl (Nat.le_of_ble_eq_true rfl) ?_
  intro p e s m args below meth c AA Q H locs ls hx hb hml hown hts hA hK hP hD hS hl hend0
  have hend : ∀ (r1 : Int32 × St × St × St) (H : Heap) (locs : List Loc) (pc : Nat) (ls : Array Slot), some r1 = some r → va_P D vwCl (cX cI A r1.2.1 r1.2.2.1 k r1.2.2.2 w z q) H → va_S AA s.heap H locs → decode cX4_harbour pc = .ok (.ireturn, 1) → W p l e rm_X4_harbour s m args below meth c H locs 0 0 Q (F0 m pc ls [.int r1.1]) := by
    intro r1 H locs pc ls e1 hP hS hd; cases e1; exact hend0 H locs pc ls hP hS hd
  clear hend0
  have hw4 : ∀ w ∈ wsX40, w ∈ wsX4_harbour := by decide +kernel
  have k10 := hts (.fieldLink RX4 10 "AnchorsForConfession" "now" "LAnchorsForConfession$Harbour;") (by decide +kernel)
  have k16 := hts (.fieldLink RX4 16 "AnchorsForConfession" "thought" "LAnchorsForConfession$Harbour;") (by decide +kernel)
  have k25 := hts (.fieldLink RX4 25 "AnchorsForConfession" "letters" "LAnchorsForConfession$Letters;") (by decide +kernel)
  replace hl : lv_has ls 2 [(0, .ref (A 0))] := hl
  refine lv_aload_n hx hb dX4_harbour_0 rfl (lv_at hl 0 rfl) ?_
  refine va_get (D := D) (ci := 4) (v := .ref (A 10)) (C := RX4) (T := TX4) (N := 8) hx hb hts hw4 hown hK hP 0 cX_at0 rfl 1 (by decide) k16 (fun _ h9 => h9) rfl dX4_harbour_1 ?_
  refine lv_aload_n hx hb dX4_harbour_4 rfl (lv_at hl 0 rfl) ?_
  refine va_get (D := D) (ci := 4) (v := .ref (A 1)) (C := RX4) (T := TX4) (N := 8) hx hb hts hw4 hown hK hP 0 cX_at0 rfl 0 (by decide) k10 (fun _ h9 => h9) rfl dX4_harbour_5 ?_
  obtain ⟨a_1, ha_1, hf⟩ := bd_e hf
  refine Ct.callV (As := [.ref (A 1)]) (rest := []) (st1 := []) (c_X0_copyFrom l D cI (fun j => A (10 + j)) (fun j => A (1 + j)) t n a_1 ha_1) hx hb hml hown hts (cwV 1 hts gX4_harbour_X0_copyFrom rfl rfl rfl hd_X0_copyFrom ⟨Nat.le_of_ble_eq_true rfl, Nat.le_of_ble_eq_true rfl⟩) (va_recv hK hP (ci := 0) (q0 := 10) rfl cX_at10) ln_X_HH_tn hA hK hP hD hS rfl hl.1 rfl rfl (Nat.le_of_ble_eq_true rfl) dX4_harbour_8 (fun H locs hP hD hS => ?_)
  replace hP : va_P D vwCl (cX cI A n a_1 k g w z q) H := hP
  replace hD : va_D AA (cX cI A n a_1 k g w z q) := hD
  refine lv_aload_n hx hb dX4_harbour_11 rfl (lv_at hl 0 rfl) ?_
  refine va_get (D := D) (ci := 4) (v := .ref (A 28)) (C := RX4) (T := TX4) (N := 8) hx hb hts hw4 hown hK hP 0 cX_at0 rfl 3 (by decide) k25 (fun _ h9 => h9) rfl dX4_harbour_12 ?_
  refine lv_aload_n hx hb dX4_harbour_15 rfl (lv_at hl 0 rfl) ?_
  refine va_get (D := D) (ci := 4) (v := .ref (A 10)) (C := RX4) (T := TX4) (N := 8) hx hb hts hw4 hown hK hP 0 cX_at0 rfl 1 (by decide) k16 (fun _ h9 => h9) rfl dX4_harbour_16 ?_
  obtain ⟨a_2, ha_2, hf⟩ := bd_e hf
  refine Ct.callV (As := [.ref (A 10)]) (rest := []) (st1 := [.int a_2.1]) (c_X1_play l D cI (fun j => A (28 + j)) (fun j => A (10 + j)) g a_1 a_2 ha_2) hx hb hml hown hts (cwV 1 hts gX4_harbour_X1_play rfl rfl rfl hd_X1_play ⟨Nat.le_of_ble_eq_true rfl, Nat.le_of_ble_eq_true rfl⟩) (va_recv hK hP (ci := 1) (q0 := 28) rfl cX_at28) ln_X_GH_t hA hK hP hD hS rfl hl.1 rfl rfl (Nat.le_of_ble_eq_true rfl) dX4_harbour_19 (fun H locs hP hD hS => ?_)
  replace hP : va_P D vwCl (cX cI A n a_2.2 k g w z q) H := hP
  replace hD : va_D AA (cX cI A n a_2.2 k g w z q) := hD
  refine lv_istore_n (lv' := [(1, .int a_2.1), (0, .ref (A 0))]) hx hb dX4_harbour_22 rfl hl (by decide) rfl (fun ls hl => ?_)
  refine lv_aload_n hx hb dX4_harbour_23 rfl (lv_at hl 1 rfl) ?_
  refine va_get (D := D) (ci := 4) (v := .ref (A 28)) (C := RX4) (T := TX4) (N := 8) hx hb hts hw4 hown hK hP 0 cX_at0 rfl 3 (by decide) k25 (fun _ h9 => h9) rfl dX4_harbour_24 ?_
  obtain ⟨a_3, ha_3, hf⟩ := bd_e hf
  refine Ct.callV (As := []) (rest := []) (st1 := []) (c_X1_drop l D cI (fun j => A (28 + j)) g a_3 ha_3) hx hb hml hown hts (cwV 0 hts gX4_harbour_X1_drop rfl rfl rfl hd_X1_drop ⟨Nat.le_of_ble_eq_true rfl, Nat.le_of_ble_eq_true rfl⟩) (va_recv hK hP (ci := 1) (q0 := 28) rfl cX_at28) ln_X_G hA hK hP hD hS rfl hl.1 rfl rfl (Nat.le_of_ble_eq_true rfl) dX4_harbour_27 (fun H locs hP hD hS => ?_)
  replace hP : va_P D vwCl (cX cI A n a_2.2 k a_3 w z q) H := hP
  replace hD : va_D AA (cX cI A n a_2.2 k a_3 w z q) := hD
  refine lv_iload_n hx hb dX4_harbour_30 rfl (lv_at hl 0 rfl) ?_
  refine lv_if_le (tgt := 45) hx hb dX4_harbour_31 (by decide) (fun c_4 => ?_) (fun c_4 => ?_)
  · replace hf := if_t c_4 hf
    refine lv_iload_n hx hb dX4_harbour_45 rfl (lv_at hl 0 rfl) ?_
    exact hend (a_2.1, n, a_2.2, a_3) H locs _ _ hf hP hS dX4_harbour_46
  · replace hf := if_f c_4 hf
    refine lv_aload_n hx hb dX4_harbour_34 rfl (lv_at hl 1 rfl) ?_
    refine va_get (D := D) (ci := 4) (v := .ref (A 1)) (C := RX4) (T := TX4) (N := 8) hx hb hts hw4 hown hK hP 0 cX_at0 rfl 0 (by decide) k10 (fun _ h9 => h9) rfl dX4_harbour_35 ?_
    refine lv_aload_n hx hb dX4_harbour_38 rfl (lv_at hl 1 rfl) ?_
    refine va_get (D := D) (ci := 4) (v := .ref (A 10)) (C := RX4) (T := TX4) (N := 8) hx hb hts hw4 hown hK hP 0 cX_at0 rfl 1 (by decide) k16 (fun _ h9 => h9) rfl dX4_harbour_39 ?_
    obtain ⟨a_5, ha_5, hf⟩ := bd_e hf
    refine Ct.callV (As := [.ref (A 10)]) (rest := []) (st1 := []) (c_X0_copyFrom l D cI (fun j => A (1 + j)) (fun j => A (10 + j)) n a_2.2 a_5 ha_5) hx hb hml hown hts (cwV 1 hts gX4_harbour_X0_copyFrom rfl rfl rfl hd_X0_copyFrom ⟨Nat.le_of_ble_eq_true rfl, Nat.le_of_ble_eq_true rfl⟩) (va_recv hK hP (ci := 0) (q0 := 1) rfl cX_at1) ln_X_HH_nt hA hK hP hD hS rfl hl.1 rfl rfl (Nat.le_of_ble_eq_true rfl) dX4_harbour_42 (fun H locs hP hD hS => ?_)
    replace hP : va_P D vwCl (cX cI A a_5 a_2.2 k a_3 w z q) H := hP
    replace hD : va_D AA (cX cI A a_5 a_2.2 k a_3 w z q) := hD
    refine lv_iload_n hx hb dX4_harbour_45 rfl (lv_at hl 0 rfl) ?_
    exact hend (a_2.1, a_5, a_2.2, a_3) H locs _ _ hf hP hS dX4_harbour_46

def f_X4_tells (n : St) (t : St) (k : St) (g : St) (w : St) (z : St) (q : St) (p1 : Int32) : Option (Int32 × St × St) := (bd (f_X0_hasMan n p1) fun a_1 => (if a_1 = 0 then (bd (f_X4_refused n t k g w z q (-1 : Int32)) fun a_7 => (some (a_7.1, n, a_7.2))) else (bd (f_X0_canTell n p1) fun a_3 => (if a_3 = 0 then (bd (f_X4_refused n t k g w z q (-3 : Int32)) fun a_6 => (some (a_6.1, n, a_6.2))) else (bd (f_X0_word n p1) fun a_5 => (some (a_5.1, a_5.2, q)))))))
def rm_X4_tells : Room := { frames := 4, cells := 0, slots := 0, locals := 89 }
theorem hd_X4_tells : yX4_tells.cls = RX4 ∧ yX4_tells.cls ≠ "java/lang/invoke/MethodHandle" ∧ yX4_tells.cls ≠ "java/lang/invoke/VarHandle" ∧ (parseMethodDescriptor yX4_tells.desc).map (fun d => d.parameters.length) = some 1 := by decide +kernel
set_option maxRecDepth 100000 in
set_option maxHeartbeats 4000000 in
theorem c_X4_tells (l : Launch) (D : va_G) (cI : ClassId) (A : Nat → Nat) (n : St) (t : St) (k : St) (g : St) (w : St) (z : St) (q : St) (p1 : Int32) (r : Int32 × St × St) (hf : f_X4_tells n t k g w z q p1 = some r) : Ct l yX4_tells wsX4_tells rm_X4_tells D cI (cX cI A n t k g w z q) (cX cI A r.2.1 t k g w z r.2.2) [.ref (A 0), .int p1] (some (.int r.1)) := by
  unfold f_X4_tells at hf
  refine Ct.ofI (cc := cX4_tells) (maxL := 2) (by decide +kernel) rfl (Nat.le_of_ble_eq_true rfl) ?_
  intro p e s m args below meth c AA Q H locs ls hx hb hml hown hts hA hK hP hD hS hl hend0
  have hend : ∀ (r1 : Int32 × St × St) (H : Heap) (locs : List Loc) (pc : Nat) (ls : Array Slot), some r1 = some r → va_P D vwCl (cX cI A r1.2.1 t k g w z r1.2.2) H → va_S AA s.heap H locs → decode cX4_tells pc = .ok (.ireturn, 1) → W p l e rm_X4_tells s m args below meth c H locs 0 0 Q (F0 m pc ls [.int r1.1]) := by
    intro r1 H locs pc ls e1 hP hS hd; cases e1; exact hend0 H locs pc ls hP hS hd
  clear hend0
  have hw4 : ∀ w ∈ wsX40, w ∈ wsX4_tells := by decide +kernel
  have k10 := hts (.fieldLink RX4 10 "AnchorsForConfession" "now" "LAnchorsForConfession$Harbour;") (by decide +kernel)
  replace hl : lv_has ls 2 [(0, .ref (A 0)), (1, .int p1)] := hl
  refine lv_aload_n hx hb dX4_tells_0 rfl (lv_at hl 0 rfl) ?_
  refine va_get (D := D) (ci := 4) (v := .ref (A 1)) (C := RX4) (T := TX4) (N := 8) hx hb hts hw4 hown hK hP 0 cX_at0 rfl 0 (by decide) k10 (fun _ h9 => h9) rfl dX4_tells_1 ?_
  refine lv_iload_n hx hb dX4_tells_4 rfl (lv_at hl 1 rfl) ?_
  obtain ⟨a_1, ha_1, hf⟩ := bd_e hf
  refine Ct.callV (As := [.int p1]) (rest := []) (st1 := [.int a_1]) (c_X0_hasMan l D cI (fun j => A (1 + j)) n p1 a_1 ha_1) hx hb hml hown hts (cwV 1 hts gX4_tells_X0_hasMan rfl rfl rfl hd_X0_hasMan ⟨Nat.le_of_ble_eq_true rfl, Nat.le_of_ble_eq_true rfl⟩) (va_recv hK hP (ci := 0) (q0 := 1) rfl cX_at1) ln_X_H_n hA hK hP hD hS rfl hl.1 rfl rfl (Nat.le_of_ble_eq_true rfl) dX4_tells_5 (fun H locs hP hD hS => ?_)
  refine lv_if_ne (tgt := 17) hx hb dX4_tells_8 (by decide) (fun c_2 => ?_) (fun c_2 => ?_)
  · replace hf := if_f c_2 hf
    refine lv_aload_n hx hb dX4_tells_17 rfl (lv_at hl 0 rfl) ?_
    refine va_get (D := D) (ci := 4) (v := .ref (A 1)) (C := RX4) (T := TX4) (N := 8) hx hb hts hw4 hown hK hP 0 cX_at0 rfl 0 (by decide) k10 (fun _ h9 => h9) rfl dX4_tells_18 ?_
    refine lv_iload_n hx hb dX4_tells_21 rfl (lv_at hl 1 rfl) ?_
    obtain ⟨a_3, ha_3, hf⟩ := bd_e hf
    refine Ct.callV (As := [.int p1]) (rest := []) (st1 := [.int a_3]) (c_X0_canTell l D cI (fun j => A (1 + j)) n p1 a_3 ha_3) hx hb hml hown hts (cwV 1 hts gX4_tells_X0_canTell rfl rfl rfl hd_X0_canTell ⟨Nat.le_of_ble_eq_true rfl, Nat.le_of_ble_eq_true rfl⟩) (va_recv hK hP (ci := 0) (q0 := 1) rfl cX_at1) ln_X_H_n hA hK hP hD hS rfl hl.1 rfl rfl (Nat.le_of_ble_eq_true rfl) dX4_tells_22 (fun H locs hP hD hS => ?_)
    refine lv_if_ne (tgt := 35) hx hb dX4_tells_25 (by decide) (fun c_4 => ?_) (fun c_4 => ?_)
    · replace hf := if_f c_4 hf
      refine lv_aload_n hx hb dX4_tells_35 rfl (lv_at hl 0 rfl) ?_
      refine va_get (D := D) (ci := 4) (v := .ref (A 1)) (C := RX4) (T := TX4) (N := 8) hx hb hts hw4 hown hK hP 0 cX_at0 rfl 0 (by decide) k10 (fun _ h9 => h9) rfl dX4_tells_36 ?_
      refine lv_iload_n hx hb dX4_tells_39 rfl (lv_at hl 1 rfl) ?_
      obtain ⟨a_5, ha_5, hf⟩ := bd_e hf
      refine Ct.callV (As := [.int p1]) (rest := []) (st1 := [.int a_5.1]) (c_X0_word l D cI (fun j => A (1 + j)) n p1 a_5 ha_5) hx hb hml hown hts (cwV 1 hts gX4_tells_X0_word rfl rfl rfl hd_X0_word ⟨Nat.le_of_ble_eq_true rfl, Nat.le_of_ble_eq_true rfl⟩) (va_recv hK hP (ci := 0) (q0 := 1) rfl cX_at1) ln_X_H_n hA hK hP hD hS rfl hl.1 rfl rfl (Nat.le_of_ble_eq_true rfl) dX4_tells_40 (fun H locs hP hD hS => ?_)
      replace hP : va_P D vwCl (cX cI A a_5.2 t k g w z q) H := hP
      replace hD : va_D AA (cX cI A a_5.2 t k g w z q) := hD
      exact hend (a_5.1, a_5.2, q) H locs _ _ hf hP hS dX4_tells_43
    · replace hf := if_t c_4 hf
      refine lv_aload_n hx hb dX4_tells_28 rfl (lv_at hl 0 rfl) ?_
      refine lv_bipush (v := -3) hx hb dX4_tells_29 (by decide +kernel) ?_
      obtain ⟨a_6, ha_6, hf⟩ := bd_e hf
      refine Ct.callV (As := [.int (-3 : Int32)]) (rest := []) (st1 := [.int a_6.1]) (c_X4_refused l D cI A n t k g w z q (-3 : Int32) a_6 ha_6) hx hb hml hown hts (cwV 1 hts gX4_tells_X4_refused rfl rfl rfl hd_X4_refused ⟨Nat.le_of_ble_eq_true rfl, Nat.le_of_ble_eq_true rfl⟩) (va_recv hK hP (ci := 4) (q0 := 0) rfl cX_at0) (Ln.id rfl) hA hK hP hD hS rfl hl.1 rfl rfl (Nat.le_of_ble_eq_true rfl) dX4_tells_31 (fun H locs hP hD hS => ?_)
      replace hP : va_P D vwCl (cX cI A n t k g w z a_6.2) H := hP
      replace hD : va_D AA (cX cI A n t k g w z a_6.2) := hD
      exact hend (a_6.1, n, a_6.2) H locs _ _ hf hP hS dX4_tells_34
  · replace hf := if_t c_2 hf
    refine lv_aload_n hx hb dX4_tells_11 rfl (lv_at hl 0 rfl) ?_
    refine lv_iconst (v := -1) hx hb dX4_tells_12 (by decide) ?_
    obtain ⟨a_7, ha_7, hf⟩ := bd_e hf
    refine Ct.callV (As := [.int (-1 : Int32)]) (rest := []) (st1 := [.int a_7.1]) (c_X4_refused l D cI A n t k g w z q (-1 : Int32) a_7 ha_7) hx hb hml hown hts (cwV 1 hts gX4_tells_X4_refused rfl rfl rfl hd_X4_refused ⟨Nat.le_of_ble_eq_true rfl, Nat.le_of_ble_eq_true rfl⟩) (va_recv hK hP (ci := 4) (q0 := 0) rfl cX_at0) (Ln.id rfl) hA hK hP hD hS rfl hl.1 rfl rfl (Nat.le_of_ble_eq_true rfl) dX4_tells_13 (fun H locs hP hD hS => ?_)
    replace hP : va_P D vwCl (cX cI A n t k g w z a_7.2) H := hP
    replace hD : va_D AA (cX cI A n t k g w z a_7.2) := hD
    exact hend (a_7.1, n, a_7.2) H locs _ _ hf hP hS dX4_tells_16

def f_X4_boards (n : St) (t : St) (k : St) (g : St) (w : St) (z : St) (q : St) (p1 : Int32) (p2 : Int32) : Option (Int32 × St × St) := (bd (f_X0_hasMan n p1) fun a_1 => (if a_1 = 0 then (bd (f_X4_refused n t k g w z q (-1 : Int32)) fun a_3 => (some (a_3.1, n, a_3.2))) else (bd (f_X0_hasShip n p2) fun a_4 => (if a_4 = 0 then (bd (f_X4_refused n t k g w z q (-1 : Int32)) fun a_10 => (some (a_10.1, n, a_10.2))) else (gi p1 8 (nm (n 7 (p1).toNatClampNeg) fun v_7 => (gi p1 8 (nm (su n 7 (p1).toNatClampNeg p2) fun h_9 => (some (v_7, h_9, q))))))))))
def rm_X4_boards : Room := { frames := 1, cells := 0, slots := 0, locals := 22 }
theorem hd_X4_boards : yX4_boards.cls = RX4 ∧ yX4_boards.cls ≠ "java/lang/invoke/MethodHandle" ∧ yX4_boards.cls ≠ "java/lang/invoke/VarHandle" ∧ (parseMethodDescriptor yX4_boards.desc).map (fun d => d.parameters.length) = some 2 := by decide +kernel
set_option maxRecDepth 100000 in
set_option maxHeartbeats 4000000 in
theorem c_X4_boards (l : Launch) (D : va_G) (cI : ClassId) (A : Nat → Nat) (n : St) (t : St) (k : St) (g : St) (w : St) (z : St) (q : St) (p1 : Int32) (p2 : Int32) (r : Int32 × St × St) (hf : f_X4_boards n t k g w z q p1 p2 = some r) : Ct l yX4_boards wsX4_boards rm_X4_boards D cI (cX cI A n t k g w z q) (cX cI A r.2.1 t k g w z r.2.2) [.ref (A 0), .int p1, .int p2] (some (.int r.1)) := by
  unfold f_X4_boards at hf
  refine Ct.ofI (cc := cX4_boards) (maxL := 4) (by decide +kernel) rfl (Nat.le_of_ble_eq_true rfl) ?_
  intro p e s m args below meth c AA Q H locs ls hx hb hml hown hts hA hK hP hD hS hl hend0
  have hend : ∀ (r1 : Int32 × St × St) (H : Heap) (locs : List Loc) (pc : Nat) (ls : Array Slot), some r1 = some r → va_P D vwCl (cX cI A r1.2.1 t k g w z r1.2.2) H → va_S AA s.heap H locs → decode cX4_boards pc = .ok (.ireturn, 1) → W p l e rm_X4_boards s m args below meth c H locs 0 0 Q (F0 m pc ls [.int r1.1]) := by
    intro r1 H locs pc ls e1 hP hS hd; cases e1; exact hend0 H locs pc ls hP hS hd
  clear hend0
  have hw0 : ∀ w ∈ wsX00, w ∈ wsX4_boards := by decide +kernel
  have hw4 : ∀ w ∈ wsX40, w ∈ wsX4_boards := by decide +kernel
  have k10 := hts (.fieldLink RX4 10 "AnchorsForConfession" "now" "LAnchorsForConfession$Harbour;") (by decide +kernel)
  have k86 := hts (.fieldLink RX4 86 "AnchorsForConfession$Harbour" "aboard" "[I") (by decide +kernel)
  replace hl : lv_has ls 4 [(0, .ref (A 0)), (1, .int p1), (2, .int p2)] := hl
  refine lv_aload_n hx hb dX4_boards_0 rfl (lv_at hl 0 rfl) ?_
  refine va_get (D := D) (ci := 4) (v := .ref (A 1)) (C := RX4) (T := TX4) (N := 8) hx hb hts hw4 hown hK hP 0 cX_at0 rfl 0 (by decide) k10 (fun _ h9 => h9) rfl dX4_boards_1 ?_
  refine lv_iload_n hx hb dX4_boards_4 rfl (lv_at hl 1 rfl) ?_
  obtain ⟨a_1, ha_1, hf⟩ := bd_e hf
  refine Ct.callV (As := [.int p1]) (rest := []) (st1 := [.int a_1]) (c_X0_hasMan l D cI (fun j => A (1 + j)) n p1 a_1 ha_1) hx hb hml hown hts (cwV 1 hts gX4_boards_X0_hasMan rfl rfl rfl hd_X0_hasMan ⟨Nat.le_of_ble_eq_true rfl, Nat.le_of_ble_eq_true rfl⟩) (va_recv hK hP (ci := 0) (q0 := 1) rfl cX_at1) ln_X_H_n hA hK hP hD hS rfl hl.1 rfl rfl (Nat.le_of_ble_eq_true rfl) dX4_boards_5 (fun H locs hP hD hS => ?_)
  refine lv_if_eq (tgt := 22) hx hb dX4_boards_8 (by decide) (fun c_2 => ?_) (fun c_2 => ?_)
  · replace hf := if_t c_2 hf
    refine lv_aload_n hx hb dX4_boards_22 rfl (lv_at hl 0 rfl) ?_
    refine lv_iconst (v := -1) hx hb dX4_boards_23 (by decide) ?_
    obtain ⟨a_3, ha_3, hf⟩ := bd_e hf
    refine Ct.callV (As := [.int (-1 : Int32)]) (rest := []) (st1 := [.int a_3.1]) (c_X4_refused l D cI A n t k g w z q (-1 : Int32) a_3 ha_3) hx hb hml hown hts (cwV 1 hts gX4_boards_X4_refused rfl rfl rfl hd_X4_refused ⟨Nat.le_of_ble_eq_true rfl, Nat.le_of_ble_eq_true rfl⟩) (va_recv hK hP (ci := 4) (q0 := 0) rfl cX_at0) (Ln.id rfl) hA hK hP hD hS rfl hl.1 rfl rfl (Nat.le_of_ble_eq_true rfl) dX4_boards_24 (fun H locs hP hD hS => ?_)
    replace hP : va_P D vwCl (cX cI A n t k g w z a_3.2) H := hP
    replace hD : va_D AA (cX cI A n t k g w z a_3.2) := hD
    exact hend (a_3.1, n, a_3.2) H locs _ _ hf hP hS dX4_boards_27
  · replace hf := if_f c_2 hf
    refine lv_aload_n hx hb dX4_boards_11 rfl (lv_at hl 0 rfl) ?_
    refine va_get (D := D) (ci := 4) (v := .ref (A 1)) (C := RX4) (T := TX4) (N := 8) hx hb hts hw4 hown hK hP 0 cX_at0 rfl 0 (by decide) k10 (fun _ h9 => h9) rfl dX4_boards_12 ?_
    refine lv_iload_n hx hb dX4_boards_15 rfl (lv_at hl 2 rfl) ?_
    obtain ⟨a_4, ha_4, hf⟩ := bd_e hf
    refine Ct.callV (As := [.int p2]) (rest := []) (st1 := [.int a_4]) (c_X0_hasShip l D cI (fun j => A (1 + j)) n p2 a_4 ha_4) hx hb hml hown hts (cwV 1 hts gX4_boards_X0_hasShip rfl rfl rfl hd_X0_hasShip ⟨Nat.le_of_ble_eq_true rfl, Nat.le_of_ble_eq_true rfl⟩) (va_recv hK hP (ci := 0) (q0 := 1) rfl cX_at1) ln_X_H_n hA hK hP hD hS rfl hl.1 rfl rfl (Nat.le_of_ble_eq_true rfl) dX4_boards_16 (fun H locs hP hD hS => ?_)
    refine lv_if_ne (tgt := 28) hx hb dX4_boards_19 (by decide) (fun c_5 => ?_) (fun c_5 => ?_)
    · replace hf := if_f c_5 hf
      refine lv_aload_n hx hb dX4_boards_28 rfl (lv_at hl 0 rfl) ?_
      refine va_get (D := D) (ci := 4) (v := .ref (A 1)) (C := RX4) (T := TX4) (N := 8) hx hb hts hw4 hown hK hP 0 cX_at0 rfl 0 (by decide) k10 (fun _ h9 => h9) rfl dX4_boards_29 ?_
      refine va_get (D := D) (ci := 0) (v := .ref (A 8)) (C := RX0) (T := TX0) (N := 12) hx hb hts hw0 hown hK hP 1 cX_at1 rfl 8 (by decide) k86 (fun _ h9 => h9) rfl dX4_boards_32 ?_
      refine lv_iload_n hx hb dX4_boards_35 rfl (lv_at hl 1 rfl) ?_
      obtain ⟨c_6, hf⟩ := gi_e hf
      refine va_iald hx hb hK hP 8 0 cX_at8 rfl c_6 dX4_boards_36 ?_
      refine lv_topi (fun v_7 ev_7 => ?_)
      replace hf := nm_at ev_7 hf
      refine lv_istore_n (lv' := [(3, .int v_7), (0, .ref (A 0)), (1, .int p1), (2, .int p2)]) hx hb dX4_boards_37 rfl hl (by decide) rfl (fun ls hl => ?_)
      refine lv_aload_n hx hb dX4_boards_38 rfl (lv_at hl 1 rfl) ?_
      refine va_get (D := D) (ci := 4) (v := .ref (A 1)) (C := RX4) (T := TX4) (N := 8) hx hb hts hw4 hown hK hP 0 cX_at0 rfl 0 (by decide) k10 (fun _ h9 => h9) rfl dX4_boards_39 ?_
      refine va_get (D := D) (ci := 0) (v := .ref (A 8)) (C := RX0) (T := TX0) (N := 12) hx hb hts hw0 hown hK hP 1 cX_at1 rfl 8 (by decide) k86 (fun _ h9 => h9) rfl dX4_boards_42 ?_
      refine lv_iload_n hx hb dX4_boards_45 rfl (lv_at hl 2 rfl) ?_
      refine lv_iload_n hx hb dX4_boards_46 rfl (lv_at hl 3 rfl) ?_
      obtain ⟨c_8, hf⟩ := gi_e hf
      refine va_iast hx hb hK hP hD hS 8 0 cX_at8 rfl c_8 dX4_boards_47 (fun H locs hP hD hS => ?_)
      obtain ⟨h_9, eh_9, hf⟩ := nm_e hf
      rw [cX_su8, ← eh_9] at hP hD
      refine lv_iload_n hx hb dX4_boards_48 rfl (lv_at hl 0 rfl) ?_
      exact hend (v_7, h_9, q) H locs _ _ hf hP hS dX4_boards_49
    · replace hf := if_t c_5 hf
      refine lv_aload_n hx hb dX4_boards_22 rfl (lv_at hl 0 rfl) ?_
      refine lv_iconst (v := -1) hx hb dX4_boards_23 (by decide) ?_
      obtain ⟨a_10, ha_10, hf⟩ := bd_e hf
      refine Ct.callV (As := [.int (-1 : Int32)]) (rest := []) (st1 := [.int a_10.1]) (c_X4_refused l D cI A n t k g w z q (-1 : Int32) a_10 ha_10) hx hb hml hown hts (cwV 1 hts gX4_boards_X4_refused rfl rfl rfl hd_X4_refused ⟨Nat.le_of_ble_eq_true rfl, Nat.le_of_ble_eq_true rfl⟩) (va_recv hK hP (ci := 4) (q0 := 0) rfl cX_at0) (Ln.id rfl) hA hK hP hD hS rfl hl.1 rfl rfl (Nat.le_of_ble_eq_true rfl) dX4_boards_24 (fun H locs hP hD hS => ?_)
      replace hP : va_P D vwCl (cX cI A n t k g w z a_10.2) H := hP
      replace hD : va_D AA (cX cI A n t k g w z a_10.2) := hD
      exact hend (a_10.1, n, a_10.2) H locs _ _ hf hP hS dX4_boards_27

def f_X4_sins (n : St) (t : St) (k : St) (g : St) (w : St) (z : St) (q : St) (p1 : Int32) (p2 : Int32) : Option (Int32 × St × St) := (bd (f_X0_hasMan n p1) fun a_1 => (if a_1 = 0 then (bd (f_X4_refused n t k g w z q (-1 : Int32)) fun a_11 => (some (a_11.1, n, a_11.2))) else (if 0 ≤ p2 then (if p2 ≤ (9 : Int32) then (gi p1 8 (nm (n 6 (p1).toNatClampNeg) fun v_6 => (gi p1 8 (nm (su n 6 (p1).toNatClampNeg p2) fun h_8 => (some (v_6, h_8, q)))))) else (bd (f_X4_refused n t k g w z q (-6 : Int32)) fun a_9 => (some (a_9.1, n, a_9.2)))) else (bd (f_X4_refused n t k g w z q (-4 : Int32)) fun a_10 => (some (a_10.1, n, a_10.2))))))
def rm_X4_sins : Room := { frames := 1, cells := 0, slots := 0, locals := 22 }
theorem hd_X4_sins : yX4_sins.cls = RX4 ∧ yX4_sins.cls ≠ "java/lang/invoke/MethodHandle" ∧ yX4_sins.cls ≠ "java/lang/invoke/VarHandle" ∧ (parseMethodDescriptor yX4_sins.desc).map (fun d => d.parameters.length) = some 2 := by decide +kernel
set_option maxRecDepth 100000 in
set_option maxHeartbeats 4000000 in
theorem c_X4_sins (l : Launch) (D : va_G) (cI : ClassId) (A : Nat → Nat) (n : St) (t : St) (k : St) (g : St) (w : St) (z : St) (q : St) (p1 : Int32) (p2 : Int32) (r : Int32 × St × St) (hf : f_X4_sins n t k g w z q p1 p2 = some r) : Ct l yX4_sins wsX4_sins rm_X4_sins D cI (cX cI A n t k g w z q) (cX cI A r.2.1 t k g w z r.2.2) [.ref (A 0), .int p1, .int p2] (some (.int r.1)) := by
  unfold f_X4_sins at hf
  refine Ct.ofI (cc := cX4_sins) (maxL := 4) (by decide +kernel) rfl (Nat.le_of_ble_eq_true rfl) ?_
  intro p e s m args below meth c AA Q H locs ls hx hb hml hown hts hA hK hP hD hS hl hend0
  have hend : ∀ (r1 : Int32 × St × St) (H : Heap) (locs : List Loc) (pc : Nat) (ls : Array Slot), some r1 = some r → va_P D vwCl (cX cI A r1.2.1 t k g w z r1.2.2) H → va_S AA s.heap H locs → decode cX4_sins pc = .ok (.ireturn, 1) → W p l e rm_X4_sins s m args below meth c H locs 0 0 Q (F0 m pc ls [.int r1.1]) := by
    intro r1 H locs pc ls e1 hP hS hd; cases e1; exact hend0 H locs pc ls hP hS hd
  clear hend0
  have hw0 : ∀ w ∈ wsX00, w ∈ wsX4_sins := by decide +kernel
  have hw4 : ∀ w ∈ wsX40, w ∈ wsX4_sins := by decide +kernel
  have k10 := hts (.fieldLink RX4 10 "AnchorsForConfession" "now" "LAnchorsForConfession$Harbour;") (by decide +kernel)
  have k89 := hts (.fieldLink RX4 89 "AnchorsForConfession$Harbour" "sinsOf" "[I") (by decide +kernel)
  replace hl : lv_has ls 4 [(0, .ref (A 0)), (1, .int p1), (2, .int p2)] := hl
  refine lv_aload_n hx hb dX4_sins_0 rfl (lv_at hl 0 rfl) ?_
  refine va_get (D := D) (ci := 4) (v := .ref (A 1)) (C := RX4) (T := TX4) (N := 8) hx hb hts hw4 hown hK hP 0 cX_at0 rfl 0 (by decide) k10 (fun _ h9 => h9) rfl dX4_sins_1 ?_
  refine lv_iload_n hx hb dX4_sins_4 rfl (lv_at hl 1 rfl) ?_
  obtain ⟨a_1, ha_1, hf⟩ := bd_e hf
  refine Ct.callV (As := [.int p1]) (rest := []) (st1 := [.int a_1]) (c_X0_hasMan l D cI (fun j => A (1 + j)) n p1 a_1 ha_1) hx hb hml hown hts (cwV 1 hts gX4_sins_X0_hasMan rfl rfl rfl hd_X0_hasMan ⟨Nat.le_of_ble_eq_true rfl, Nat.le_of_ble_eq_true rfl⟩) (va_recv hK hP (ci := 0) (q0 := 1) rfl cX_at1) ln_X_H_n hA hK hP hD hS rfl hl.1 rfl rfl (Nat.le_of_ble_eq_true rfl) dX4_sins_5 (fun H locs hP hD hS => ?_)
  refine lv_if_ne (tgt := 17) hx hb dX4_sins_8 (by decide) (fun c_2 => ?_) (fun c_2 => ?_)
  · replace hf := if_f c_2 hf
    refine lv_iload_n hx hb dX4_sins_17 rfl (lv_at hl 2 rfl) ?_
    refine lv_if_ge (tgt := 28) hx hb dX4_sins_18 (by decide) (fun c_3 => ?_) (fun c_3 => ?_)
    · replace hf := if_t c_3 hf
      refine lv_iload_n hx hb dX4_sins_28 rfl (lv_at hl 2 rfl) ?_
      refine lv_bipush (v := 9) hx hb dX4_sins_29 (by decide +kernel) ?_
      refine lv_icmp_le (tgt := 41) hx hb dX4_sins_31 (by decide) (fun c_4 => ?_) (fun c_4 => ?_)
      · replace hf := if_t c_4 hf
        refine lv_aload_n hx hb dX4_sins_41 rfl (lv_at hl 0 rfl) ?_
        refine va_get (D := D) (ci := 4) (v := .ref (A 1)) (C := RX4) (T := TX4) (N := 8) hx hb hts hw4 hown hK hP 0 cX_at0 rfl 0 (by decide) k10 (fun _ h9 => h9) rfl dX4_sins_42 ?_
        refine va_get (D := D) (ci := 0) (v := .ref (A 7)) (C := RX0) (T := TX0) (N := 12) hx hb hts hw0 hown hK hP 1 cX_at1 rfl 7 (by decide) k89 (fun _ h9 => h9) rfl dX4_sins_45 ?_
        refine lv_iload_n hx hb dX4_sins_48 rfl (lv_at hl 1 rfl) ?_
        obtain ⟨c_5, hf⟩ := gi_e hf
        refine va_iald hx hb hK hP 7 0 cX_at7 rfl c_5 dX4_sins_49 ?_
        refine lv_topi (fun v_6 ev_6 => ?_)
        replace hf := nm_at ev_6 hf
        refine lv_istore_n (lv' := [(3, .int v_6), (0, .ref (A 0)), (1, .int p1), (2, .int p2)]) hx hb dX4_sins_50 rfl hl (by decide) rfl (fun ls hl => ?_)
        refine lv_aload_n hx hb dX4_sins_51 rfl (lv_at hl 1 rfl) ?_
        refine va_get (D := D) (ci := 4) (v := .ref (A 1)) (C := RX4) (T := TX4) (N := 8) hx hb hts hw4 hown hK hP 0 cX_at0 rfl 0 (by decide) k10 (fun _ h9 => h9) rfl dX4_sins_52 ?_
        refine va_get (D := D) (ci := 0) (v := .ref (A 7)) (C := RX0) (T := TX0) (N := 12) hx hb hts hw0 hown hK hP 1 cX_at1 rfl 7 (by decide) k89 (fun _ h9 => h9) rfl dX4_sins_55 ?_
        refine lv_iload_n hx hb dX4_sins_58 rfl (lv_at hl 2 rfl) ?_
        refine lv_iload_n hx hb dX4_sins_59 rfl (lv_at hl 3 rfl) ?_
        obtain ⟨c_7, hf⟩ := gi_e hf
        refine va_iast hx hb hK hP hD hS 7 0 cX_at7 rfl c_7 dX4_sins_60 (fun H locs hP hD hS => ?_)
        obtain ⟨h_8, eh_8, hf⟩ := nm_e hf
        rw [cX_su7, ← eh_8] at hP hD
        refine lv_iload_n hx hb dX4_sins_61 rfl (lv_at hl 0 rfl) ?_
        exact hend (v_6, h_8, q) H locs _ _ hf hP hS dX4_sins_62
      · replace hf := if_f c_4 hf
        refine lv_aload_n hx hb dX4_sins_34 rfl (lv_at hl 0 rfl) ?_
        refine lv_bipush (v := -6) hx hb dX4_sins_35 (by decide +kernel) ?_
        obtain ⟨a_9, ha_9, hf⟩ := bd_e hf
        refine Ct.callV (As := [.int (-6 : Int32)]) (rest := []) (st1 := [.int a_9.1]) (c_X4_refused l D cI A n t k g w z q (-6 : Int32) a_9 ha_9) hx hb hml hown hts (cwV 1 hts gX4_sins_X4_refused rfl rfl rfl hd_X4_refused ⟨Nat.le_of_ble_eq_true rfl, Nat.le_of_ble_eq_true rfl⟩) (va_recv hK hP (ci := 4) (q0 := 0) rfl cX_at0) (Ln.id rfl) hA hK hP hD hS rfl hl.1 rfl rfl (Nat.le_of_ble_eq_true rfl) dX4_sins_37 (fun H locs hP hD hS => ?_)
        replace hP : va_P D vwCl (cX cI A n t k g w z a_9.2) H := hP
        replace hD : va_D AA (cX cI A n t k g w z a_9.2) := hD
        exact hend (a_9.1, n, a_9.2) H locs _ _ hf hP hS dX4_sins_40
    · replace hf := if_f c_3 hf
      refine lv_aload_n hx hb dX4_sins_21 rfl (lv_at hl 0 rfl) ?_
      refine lv_bipush (v := -4) hx hb dX4_sins_22 (by decide +kernel) ?_
      obtain ⟨a_10, ha_10, hf⟩ := bd_e hf
      refine Ct.callV (As := [.int (-4 : Int32)]) (rest := []) (st1 := [.int a_10.1]) (c_X4_refused l D cI A n t k g w z q (-4 : Int32) a_10 ha_10) hx hb hml hown hts (cwV 1 hts gX4_sins_X4_refused rfl rfl rfl hd_X4_refused ⟨Nat.le_of_ble_eq_true rfl, Nat.le_of_ble_eq_true rfl⟩) (va_recv hK hP (ci := 4) (q0 := 0) rfl cX_at0) (Ln.id rfl) hA hK hP hD hS rfl hl.1 rfl rfl (Nat.le_of_ble_eq_true rfl) dX4_sins_24 (fun H locs hP hD hS => ?_)
      replace hP : va_P D vwCl (cX cI A n t k g w z a_10.2) H := hP
      replace hD : va_D AA (cX cI A n t k g w z a_10.2) := hD
      exact hend (a_10.1, n, a_10.2) H locs _ _ hf hP hS dX4_sins_27
  · replace hf := if_t c_2 hf
    refine lv_aload_n hx hb dX4_sins_11 rfl (lv_at hl 0 rfl) ?_
    refine lv_iconst (v := -1) hx hb dX4_sins_12 (by decide) ?_
    obtain ⟨a_11, ha_11, hf⟩ := bd_e hf
    refine Ct.callV (As := [.int (-1 : Int32)]) (rest := []) (st1 := [.int a_11.1]) (c_X4_refused l D cI A n t k g w z q (-1 : Int32) a_11 ha_11) hx hb hml hown hts (cwV 1 hts gX4_sins_X4_refused rfl rfl rfl hd_X4_refused ⟨Nat.le_of_ble_eq_true rfl, Nat.le_of_ble_eq_true rfl⟩) (va_recv hK hP (ci := 4) (q0 := 0) rfl cX_at0) (Ln.id rfl) hA hK hP hD hS rfl hl.1 rfl rfl (Nat.le_of_ble_eq_true rfl) dX4_sins_13 (fun H locs hP hD hS => ?_)
    replace hP : va_P D vwCl (cX cI A n t k g w z a_11.2) H := hP
    replace hD : va_D AA (cX cI A n t k g w z a_11.2) := hD
    exact hend (a_11.1, n, a_11.2) H locs _ _ hf hP hS dX4_sins_16

def f_X4_loads (n : St) (t : St) (k : St) (g : St) (w : St) (z : St) (q : St) (p1 : Int32) (p2 : Int32) : Option (Int32 × St × St) := (bd (f_X0_hasShip n p1) fun a_1 => (if a_1 = 0 then (bd (f_X4_refused n t k g w z q (-1 : Int32)) fun a_11 => (some (a_11.1, n, a_11.2))) else (if 0 ≤ p2 then (if p2 ≤ (9 : Int32) then (gi p1 5 (nm (n 1 (p1).toNatClampNeg) fun v_6 => (gi p1 5 (nm (su n 1 (p1).toNatClampNeg p2) fun h_8 => (some (v_6, h_8, q)))))) else (bd (f_X4_refused n t k g w z q (-6 : Int32)) fun a_9 => (some (a_9.1, n, a_9.2)))) else (bd (f_X4_refused n t k g w z q (-4 : Int32)) fun a_10 => (some (a_10.1, n, a_10.2))))))
def rm_X4_loads : Room := { frames := 1, cells := 0, slots := 0, locals := 22 }
theorem hd_X4_loads : yX4_loads.cls = RX4 ∧ yX4_loads.cls ≠ "java/lang/invoke/MethodHandle" ∧ yX4_loads.cls ≠ "java/lang/invoke/VarHandle" ∧ (parseMethodDescriptor yX4_loads.desc).map (fun d => d.parameters.length) = some 2 := by decide +kernel
set_option maxRecDepth 100000 in
set_option maxHeartbeats 4000000 in
theorem c_X4_loads (l : Launch) (D : va_G) (cI : ClassId) (A : Nat → Nat) (n : St) (t : St) (k : St) (g : St) (w : St) (z : St) (q : St) (p1 : Int32) (p2 : Int32) (r : Int32 × St × St) (hf : f_X4_loads n t k g w z q p1 p2 = some r) : Ct l yX4_loads wsX4_loads rm_X4_loads D cI (cX cI A n t k g w z q) (cX cI A r.2.1 t k g w z r.2.2) [.ref (A 0), .int p1, .int p2] (some (.int r.1)) := by
  unfold f_X4_loads at hf
  refine Ct.ofI (cc := cX4_loads) (maxL := 4) (by decide +kernel) rfl (Nat.le_of_ble_eq_true rfl) ?_
  intro p e s m args below meth c AA Q H locs ls hx hb hml hown hts hA hK hP hD hS hl hend0
  have hend : ∀ (r1 : Int32 × St × St) (H : Heap) (locs : List Loc) (pc : Nat) (ls : Array Slot), some r1 = some r → va_P D vwCl (cX cI A r1.2.1 t k g w z r1.2.2) H → va_S AA s.heap H locs → decode cX4_loads pc = .ok (.ireturn, 1) → W p l e rm_X4_loads s m args below meth c H locs 0 0 Q (F0 m pc ls [.int r1.1]) := by
    intro r1 H locs pc ls e1 hP hS hd; cases e1; exact hend0 H locs pc ls hP hS hd
  clear hend0
  have hw0 : ∀ w ∈ wsX00, w ∈ wsX4_loads := by decide +kernel
  have hw4 : ∀ w ∈ wsX40, w ∈ wsX4_loads := by decide +kernel
  have k10 := hts (.fieldLink RX4 10 "AnchorsForConfession" "now" "LAnchorsForConfession$Harbour;") (by decide +kernel)
  have k92 := hts (.fieldLink RX4 92 "AnchorsForConfession$Harbour" "heavy" "[I") (by decide +kernel)
  replace hl : lv_has ls 4 [(0, .ref (A 0)), (1, .int p1), (2, .int p2)] := hl
  refine lv_aload_n hx hb dX4_loads_0 rfl (lv_at hl 0 rfl) ?_
  refine va_get (D := D) (ci := 4) (v := .ref (A 1)) (C := RX4) (T := TX4) (N := 8) hx hb hts hw4 hown hK hP 0 cX_at0 rfl 0 (by decide) k10 (fun _ h9 => h9) rfl dX4_loads_1 ?_
  refine lv_iload_n hx hb dX4_loads_4 rfl (lv_at hl 1 rfl) ?_
  obtain ⟨a_1, ha_1, hf⟩ := bd_e hf
  refine Ct.callV (As := [.int p1]) (rest := []) (st1 := [.int a_1]) (c_X0_hasShip l D cI (fun j => A (1 + j)) n p1 a_1 ha_1) hx hb hml hown hts (cwV 1 hts gX4_loads_X0_hasShip rfl rfl rfl hd_X0_hasShip ⟨Nat.le_of_ble_eq_true rfl, Nat.le_of_ble_eq_true rfl⟩) (va_recv hK hP (ci := 0) (q0 := 1) rfl cX_at1) ln_X_H_n hA hK hP hD hS rfl hl.1 rfl rfl (Nat.le_of_ble_eq_true rfl) dX4_loads_5 (fun H locs hP hD hS => ?_)
  refine lv_if_ne (tgt := 17) hx hb dX4_loads_8 (by decide) (fun c_2 => ?_) (fun c_2 => ?_)
  · replace hf := if_f c_2 hf
    refine lv_iload_n hx hb dX4_loads_17 rfl (lv_at hl 2 rfl) ?_
    refine lv_if_ge (tgt := 28) hx hb dX4_loads_18 (by decide) (fun c_3 => ?_) (fun c_3 => ?_)
    · replace hf := if_t c_3 hf
      refine lv_iload_n hx hb dX4_loads_28 rfl (lv_at hl 2 rfl) ?_
      refine lv_bipush (v := 9) hx hb dX4_loads_29 (by decide +kernel) ?_
      refine lv_icmp_le (tgt := 41) hx hb dX4_loads_31 (by decide) (fun c_4 => ?_) (fun c_4 => ?_)
      · replace hf := if_t c_4 hf
        refine lv_aload_n hx hb dX4_loads_41 rfl (lv_at hl 0 rfl) ?_
        refine va_get (D := D) (ci := 4) (v := .ref (A 1)) (C := RX4) (T := TX4) (N := 8) hx hb hts hw4 hown hK hP 0 cX_at0 rfl 0 (by decide) k10 (fun _ h9 => h9) rfl dX4_loads_42 ?_
        refine va_get (D := D) (ci := 0) (v := .ref (A 2)) (C := RX0) (T := TX0) (N := 12) hx hb hts hw0 hown hK hP 1 cX_at1 rfl 1 (by decide) k92 (fun _ h9 => h9) rfl dX4_loads_45 ?_
        refine lv_iload_n hx hb dX4_loads_48 rfl (lv_at hl 1 rfl) ?_
        obtain ⟨c_5, hf⟩ := gi_e hf
        refine va_iald hx hb hK hP 2 0 cX_at2 rfl c_5 dX4_loads_49 ?_
        refine lv_topi (fun v_6 ev_6 => ?_)
        replace hf := nm_at ev_6 hf
        refine lv_istore_n (lv' := [(3, .int v_6), (0, .ref (A 0)), (1, .int p1), (2, .int p2)]) hx hb dX4_loads_50 rfl hl (by decide) rfl (fun ls hl => ?_)
        refine lv_aload_n hx hb dX4_loads_51 rfl (lv_at hl 1 rfl) ?_
        refine va_get (D := D) (ci := 4) (v := .ref (A 1)) (C := RX4) (T := TX4) (N := 8) hx hb hts hw4 hown hK hP 0 cX_at0 rfl 0 (by decide) k10 (fun _ h9 => h9) rfl dX4_loads_52 ?_
        refine va_get (D := D) (ci := 0) (v := .ref (A 2)) (C := RX0) (T := TX0) (N := 12) hx hb hts hw0 hown hK hP 1 cX_at1 rfl 1 (by decide) k92 (fun _ h9 => h9) rfl dX4_loads_55 ?_
        refine lv_iload_n hx hb dX4_loads_58 rfl (lv_at hl 2 rfl) ?_
        refine lv_iload_n hx hb dX4_loads_59 rfl (lv_at hl 3 rfl) ?_
        obtain ⟨c_7, hf⟩ := gi_e hf
        refine va_iast hx hb hK hP hD hS 2 0 cX_at2 rfl c_7 dX4_loads_60 (fun H locs hP hD hS => ?_)
        obtain ⟨h_8, eh_8, hf⟩ := nm_e hf
        rw [cX_su2, ← eh_8] at hP hD
        refine lv_iload_n hx hb dX4_loads_61 rfl (lv_at hl 0 rfl) ?_
        exact hend (v_6, h_8, q) H locs _ _ hf hP hS dX4_loads_62
      · replace hf := if_f c_4 hf
        refine lv_aload_n hx hb dX4_loads_34 rfl (lv_at hl 0 rfl) ?_
        refine lv_bipush (v := -6) hx hb dX4_loads_35 (by decide +kernel) ?_
        obtain ⟨a_9, ha_9, hf⟩ := bd_e hf
        refine Ct.callV (As := [.int (-6 : Int32)]) (rest := []) (st1 := [.int a_9.1]) (c_X4_refused l D cI A n t k g w z q (-6 : Int32) a_9 ha_9) hx hb hml hown hts (cwV 1 hts gX4_loads_X4_refused rfl rfl rfl hd_X4_refused ⟨Nat.le_of_ble_eq_true rfl, Nat.le_of_ble_eq_true rfl⟩) (va_recv hK hP (ci := 4) (q0 := 0) rfl cX_at0) (Ln.id rfl) hA hK hP hD hS rfl hl.1 rfl rfl (Nat.le_of_ble_eq_true rfl) dX4_loads_37 (fun H locs hP hD hS => ?_)
        replace hP : va_P D vwCl (cX cI A n t k g w z a_9.2) H := hP
        replace hD : va_D AA (cX cI A n t k g w z a_9.2) := hD
        exact hend (a_9.1, n, a_9.2) H locs _ _ hf hP hS dX4_loads_40
    · replace hf := if_f c_3 hf
      refine lv_aload_n hx hb dX4_loads_21 rfl (lv_at hl 0 rfl) ?_
      refine lv_bipush (v := -4) hx hb dX4_loads_22 (by decide +kernel) ?_
      obtain ⟨a_10, ha_10, hf⟩ := bd_e hf
      refine Ct.callV (As := [.int (-4 : Int32)]) (rest := []) (st1 := [.int a_10.1]) (c_X4_refused l D cI A n t k g w z q (-4 : Int32) a_10 ha_10) hx hb hml hown hts (cwV 1 hts gX4_loads_X4_refused rfl rfl rfl hd_X4_refused ⟨Nat.le_of_ble_eq_true rfl, Nat.le_of_ble_eq_true rfl⟩) (va_recv hK hP (ci := 4) (q0 := 0) rfl cX_at0) (Ln.id rfl) hA hK hP hD hS rfl hl.1 rfl rfl (Nat.le_of_ble_eq_true rfl) dX4_loads_24 (fun H locs hP hD hS => ?_)
      replace hP : va_P D vwCl (cX cI A n t k g w z a_10.2) H := hP
      replace hD : va_D AA (cX cI A n t k g w z a_10.2) := hD
      exact hend (a_10.1, n, a_10.2) H locs _ _ hf hP hS dX4_loads_27
  · replace hf := if_t c_2 hf
    refine lv_aload_n hx hb dX4_loads_11 rfl (lv_at hl 0 rfl) ?_
    refine lv_iconst (v := -1) hx hb dX4_loads_12 (by decide) ?_
    obtain ⟨a_11, ha_11, hf⟩ := bd_e hf
    refine Ct.callV (As := [.int (-1 : Int32)]) (rest := []) (st1 := [.int a_11.1]) (c_X4_refused l D cI A n t k g w z q (-1 : Int32) a_11 ha_11) hx hb hml hown hts (cwV 1 hts gX4_loads_X4_refused rfl rfl rfl hd_X4_refused ⟨Nat.le_of_ble_eq_true rfl, Nat.le_of_ble_eq_true rfl⟩) (va_recv hK hP (ci := 4) (q0 := 0) rfl cX_at0) (Ln.id rfl) hA hK hP hD hS rfl hl.1 rfl rfl (Nat.le_of_ble_eq_true rfl) dX4_loads_13 (fun H locs hP hD hS => ?_)
    replace hP : va_P D vwCl (cX cI A n t k g w z a_11.2) H := hP
    replace hD : va_D AA (cX cI A n t k g w z a_11.2) := hD
    exact hend (a_11.1, n, a_11.2) H locs _ _ hf hP hS dX4_loads_16

def f_X4_turn (n : St) (t : St) (k : St) (g : St) (w : St) (z : St) (q : St) (p1 : Int32) (p2 : Int32) (p3 : Int32) : Option (Int32 × St × St) := (bd (f_X0_hasMan n p1) fun a_1 => (if a_1 = 0 then (bd (f_X4_refused n t k g w z q (-1 : Int32)) fun a_18 => (some (a_18.1, n, a_18.2))) else (if p2 < 0 then (bd (f_X4_refused n t k g w z q (-2 : Int32)) fun a_4 => (some (a_4.1, n, a_4.2))) else (if p2 < (6 : Int32) then (if 0 ≤ p3 then (if p3 ≤ (9 : Int32) then (gi p1 8 (gi p1 8 (nm (((10 : Int32) * (n 4 (p1).toNatClampNeg)) + (n 5 (p1).toNatClampNeg)) fun v_10 => (gi p1 8 (nm (su n 4 (p1).toNatClampNeg p2) fun h_12 => (gi p1 8 (nm (su h_12 5 (p1).toNatClampNeg p3) fun h_14 => (some (v_10, h_14, q))))))))) else (bd (f_X4_refused n t k g w z q (-6 : Int32)) fun a_15 => (some (a_15.1, n, a_15.2)))) else (bd (f_X4_refused n t k g w z q (-4 : Int32)) fun a_16 => (some (a_16.1, n, a_16.2)))) else (bd (f_X4_refused n t k g w z q (-2 : Int32)) fun a_17 => (some (a_17.1, n, a_17.2)))))))
def rm_X4_turn : Room := { frames := 1, cells := 0, slots := 0, locals := 22 }
theorem hd_X4_turn : yX4_turn.cls = RX4 ∧ yX4_turn.cls ≠ "java/lang/invoke/MethodHandle" ∧ yX4_turn.cls ≠ "java/lang/invoke/VarHandle" ∧ (parseMethodDescriptor yX4_turn.desc).map (fun d => d.parameters.length) = some 3 := by decide +kernel
set_option maxRecDepth 100000 in
set_option maxHeartbeats 4000000 in
theorem c_X4_turn (l : Launch) (D : va_G) (cI : ClassId) (A : Nat → Nat) (n : St) (t : St) (k : St) (g : St) (w : St) (z : St) (q : St) (p1 : Int32) (p2 : Int32) (p3 : Int32) (r : Int32 × St × St) (hf : f_X4_turn n t k g w z q p1 p2 p3 = some r) : Ct l yX4_turn wsX4_turn rm_X4_turn D cI (cX cI A n t k g w z q) (cX cI A r.2.1 t k g w z r.2.2) [.ref (A 0), .int p1, .int p2, .int p3] (some (.int r.1)) := by
  unfold f_X4_turn at hf
  refine Ct.ofI (cc := cX4_turn) (maxL := 5) (by decide +kernel) rfl (Nat.le_of_ble_eq_true rfl) ?_
  intro p e s m args below meth c AA Q H locs ls hx hb hml hown hts hA hK hP hD hS hl hend0
  have hend : ∀ (r1 : Int32 × St × St) (H : Heap) (locs : List Loc) (pc : Nat) (ls : Array Slot), some r1 = some r → va_P D vwCl (cX cI A r1.2.1 t k g w z r1.2.2) H → va_S AA s.heap H locs → decode cX4_turn pc = .ok (.ireturn, 1) → W p l e rm_X4_turn s m args below meth c H locs 0 0 Q (F0 m pc ls [.int r1.1]) := by
    intro r1 H locs pc ls e1 hP hS hd; cases e1; exact hend0 H locs pc ls hP hS hd
  clear hend0
  have hw0 : ∀ w ∈ wsX00, w ∈ wsX4_turn := by decide +kernel
  have hw4 : ∀ w ∈ wsX40, w ∈ wsX4_turn := by decide +kernel
  have k10 := hts (.fieldLink RX4 10 "AnchorsForConfession" "now" "LAnchorsForConfession$Harbour;") (by decide +kernel)
  have k95 := hts (.fieldLink RX4 95 "AnchorsForConfession$Harbour" "kind" "[I") (by decide +kernel)
  have k98 := hts (.fieldLink RX4 98 "AnchorsForConfession$Harbour" "figure" "[I") (by decide +kernel)
  replace hl : lv_has ls 5 [(0, .ref (A 0)), (1, .int p1), (2, .int p2), (3, .int p3)] := hl
  refine lv_aload_n hx hb dX4_turn_0 rfl (lv_at hl 0 rfl) ?_
  refine va_get (D := D) (ci := 4) (v := .ref (A 1)) (C := RX4) (T := TX4) (N := 8) hx hb hts hw4 hown hK hP 0 cX_at0 rfl 0 (by decide) k10 (fun _ h9 => h9) rfl dX4_turn_1 ?_
  refine lv_iload_n hx hb dX4_turn_4 rfl (lv_at hl 1 rfl) ?_
  obtain ⟨a_1, ha_1, hf⟩ := bd_e hf
  refine Ct.callV (As := [.int p1]) (rest := []) (st1 := [.int a_1]) (c_X0_hasMan l D cI (fun j => A (1 + j)) n p1 a_1 ha_1) hx hb hml hown hts (cwV 1 hts gX4_turn_X0_hasMan rfl rfl rfl hd_X0_hasMan ⟨Nat.le_of_ble_eq_true rfl, Nat.le_of_ble_eq_true rfl⟩) (va_recv hK hP (ci := 0) (q0 := 1) rfl cX_at1) ln_X_H_n hA hK hP hD hS rfl hl.1 rfl rfl (Nat.le_of_ble_eq_true rfl) dX4_turn_5 (fun H locs hP hD hS => ?_)
  refine lv_if_ne (tgt := 17) hx hb dX4_turn_8 (by decide) (fun c_2 => ?_) (fun c_2 => ?_)
  · replace hf := if_f c_2 hf
    refine lv_iload_n hx hb dX4_turn_17 rfl (lv_at hl 2 rfl) ?_
    refine lv_if_lt (tgt := 27) hx hb dX4_turn_18 (by decide) (fun c_3 => ?_) (fun c_3 => ?_)
    · replace hf := if_t c_3 hf
      refine lv_aload_n hx hb dX4_turn_27 rfl (lv_at hl 0 rfl) ?_
      refine lv_bipush (v := -2) hx hb dX4_turn_28 (by decide +kernel) ?_
      obtain ⟨a_4, ha_4, hf⟩ := bd_e hf
      refine Ct.callV (As := [.int (-2 : Int32)]) (rest := []) (st1 := [.int a_4.1]) (c_X4_refused l D cI A n t k g w z q (-2 : Int32) a_4 ha_4) hx hb hml hown hts (cwV 1 hts gX4_turn_X4_refused rfl rfl rfl hd_X4_refused ⟨Nat.le_of_ble_eq_true rfl, Nat.le_of_ble_eq_true rfl⟩) (va_recv hK hP (ci := 4) (q0 := 0) rfl cX_at0) (Ln.id rfl) hA hK hP hD hS rfl hl.1 rfl rfl (Nat.le_of_ble_eq_true rfl) dX4_turn_30 (fun H locs hP hD hS => ?_)
      replace hP : va_P D vwCl (cX cI A n t k g w z a_4.2) H := hP
      replace hD : va_D AA (cX cI A n t k g w z a_4.2) := hD
      exact hend (a_4.1, n, a_4.2) H locs _ _ hf hP hS dX4_turn_33
    · replace hf := if_f c_3 hf
      refine lv_iload_n hx hb dX4_turn_21 rfl (lv_at hl 2 rfl) ?_
      refine lv_bipush (v := 6) hx hb dX4_turn_22 (by decide +kernel) ?_
      refine lv_icmp_lt (tgt := 34) hx hb dX4_turn_24 (by decide) (fun c_5 => ?_) (fun c_5 => ?_)
      · replace hf := if_t c_5 hf
        refine lv_iload_n hx hb dX4_turn_34 rfl (lv_at hl 3 rfl) ?_
        refine lv_if_ge (tgt := 45) hx hb dX4_turn_35 (by decide) (fun c_6 => ?_) (fun c_6 => ?_)
        · replace hf := if_t c_6 hf
          refine lv_iload_n hx hb dX4_turn_45 rfl (lv_at hl 3 rfl) ?_
          refine lv_bipush (v := 9) hx hb dX4_turn_46 (by decide +kernel) ?_
          refine lv_icmp_le (tgt := 58) hx hb dX4_turn_48 (by decide) (fun c_7 => ?_) (fun c_7 => ?_)
          · replace hf := if_t c_7 hf
            refine lv_bipush (v := 10) hx hb dX4_turn_58 (by decide +kernel) ?_
            refine lv_aload_n hx hb dX4_turn_60 rfl (lv_at hl 0 rfl) ?_
            refine va_get (D := D) (ci := 4) (v := .ref (A 1)) (C := RX4) (T := TX4) (N := 8) hx hb hts hw4 hown hK hP 0 cX_at0 rfl 0 (by decide) k10 (fun _ h9 => h9) rfl dX4_turn_61 ?_
            refine va_get (D := D) (ci := 0) (v := .ref (A 5)) (C := RX0) (T := TX0) (N := 12) hx hb hts hw0 hown hK hP 1 cX_at1 rfl 5 (by decide) k95 (fun _ h9 => h9) rfl dX4_turn_64 ?_
            refine lv_iload_n hx hb dX4_turn_67 rfl (lv_at hl 1 rfl) ?_
            obtain ⟨c_8, hf⟩ := gi_e hf
            refine va_iald hx hb hK hP 5 0 cX_at5 rfl c_8 dX4_turn_68 ?_
            refine lv_imul hx hb dX4_turn_69 ?_
            refine lv_aload_n hx hb dX4_turn_70 rfl (lv_at hl 0 rfl) ?_
            refine va_get (D := D) (ci := 4) (v := .ref (A 1)) (C := RX4) (T := TX4) (N := 8) hx hb hts hw4 hown hK hP 0 cX_at0 rfl 0 (by decide) k10 (fun _ h9 => h9) rfl dX4_turn_71 ?_
            refine va_get (D := D) (ci := 0) (v := .ref (A 6)) (C := RX0) (T := TX0) (N := 12) hx hb hts hw0 hown hK hP 1 cX_at1 rfl 6 (by decide) k98 (fun _ h9 => h9) rfl dX4_turn_74 ?_
            refine lv_iload_n hx hb dX4_turn_77 rfl (lv_at hl 1 rfl) ?_
            obtain ⟨c_9, hf⟩ := gi_e hf
            refine va_iald hx hb hK hP 6 0 cX_at6 rfl c_9 dX4_turn_78 ?_
            refine lv_iadd hx hb dX4_turn_79 ?_
            refine lv_topi (fun v_10 ev_10 => ?_)
            replace hf := nm_at ev_10 hf
            refine lv_istore (lv' := [(4, .int v_10), (0, .ref (A 0)), (1, .int p1), (2, .int p2), (3, .int p3)]) hx hb dX4_turn_80 hl (by decide) rfl (fun ls hl => ?_)
            refine lv_aload_n hx hb dX4_turn_82 rfl (lv_at hl 1 rfl) ?_
            refine va_get (D := D) (ci := 4) (v := .ref (A 1)) (C := RX4) (T := TX4) (N := 8) hx hb hts hw4 hown hK hP 0 cX_at0 rfl 0 (by decide) k10 (fun _ h9 => h9) rfl dX4_turn_83 ?_
            refine va_get (D := D) (ci := 0) (v := .ref (A 5)) (C := RX0) (T := TX0) (N := 12) hx hb hts hw0 hown hK hP 1 cX_at1 rfl 5 (by decide) k95 (fun _ h9 => h9) rfl dX4_turn_86 ?_
            refine lv_iload_n hx hb dX4_turn_89 rfl (lv_at hl 2 rfl) ?_
            refine lv_iload_n hx hb dX4_turn_90 rfl (lv_at hl 3 rfl) ?_
            obtain ⟨c_11, hf⟩ := gi_e hf
            refine va_iast hx hb hK hP hD hS 5 0 cX_at5 rfl c_11 dX4_turn_91 (fun H locs hP hD hS => ?_)
            obtain ⟨h_12, eh_12, hf⟩ := nm_e hf
            rw [cX_su5, ← eh_12] at hP hD
            refine lv_aload_n hx hb dX4_turn_92 rfl (lv_at hl 1 rfl) ?_
            refine va_get (D := D) (ci := 4) (v := .ref (A 1)) (C := RX4) (T := TX4) (N := 8) hx hb hts hw4 hown hK hP 0 cX_at0 rfl 0 (by decide) k10 (fun _ h9 => h9) rfl dX4_turn_93 ?_
            refine va_get (D := D) (ci := 0) (v := .ref (A 6)) (C := RX0) (T := TX0) (N := 12) hx hb hts hw0 hown hK hP 1 cX_at1 rfl 6 (by decide) k98 (fun _ h9 => h9) rfl dX4_turn_96 ?_
            refine lv_iload_n hx hb dX4_turn_99 rfl (lv_at hl 2 rfl) ?_
            refine lv_iload_n hx hb dX4_turn_100 rfl (lv_at hl 4 rfl) ?_
            obtain ⟨c_13, hf⟩ := gi_e hf
            refine va_iast hx hb hK hP hD hS 6 0 cX_at6 rfl c_13 dX4_turn_101 (fun H locs hP hD hS => ?_)
            obtain ⟨h_14, eh_14, hf⟩ := nm_e hf
            rw [cX_su6, ← eh_14] at hP hD
            refine lv_iload hx hb dX4_turn_102 (lv_at hl 0 rfl) ?_
            exact hend (v_10, h_14, q) H locs _ _ hf hP hS dX4_turn_104
          · replace hf := if_f c_7 hf
            refine lv_aload_n hx hb dX4_turn_51 rfl (lv_at hl 0 rfl) ?_
            refine lv_bipush (v := -6) hx hb dX4_turn_52 (by decide +kernel) ?_
            obtain ⟨a_15, ha_15, hf⟩ := bd_e hf
            refine Ct.callV (As := [.int (-6 : Int32)]) (rest := []) (st1 := [.int a_15.1]) (c_X4_refused l D cI A n t k g w z q (-6 : Int32) a_15 ha_15) hx hb hml hown hts (cwV 1 hts gX4_turn_X4_refused rfl rfl rfl hd_X4_refused ⟨Nat.le_of_ble_eq_true rfl, Nat.le_of_ble_eq_true rfl⟩) (va_recv hK hP (ci := 4) (q0 := 0) rfl cX_at0) (Ln.id rfl) hA hK hP hD hS rfl hl.1 rfl rfl (Nat.le_of_ble_eq_true rfl) dX4_turn_54 (fun H locs hP hD hS => ?_)
            replace hP : va_P D vwCl (cX cI A n t k g w z a_15.2) H := hP
            replace hD : va_D AA (cX cI A n t k g w z a_15.2) := hD
            exact hend (a_15.1, n, a_15.2) H locs _ _ hf hP hS dX4_turn_57
        · replace hf := if_f c_6 hf
          refine lv_aload_n hx hb dX4_turn_38 rfl (lv_at hl 0 rfl) ?_
          refine lv_bipush (v := -4) hx hb dX4_turn_39 (by decide +kernel) ?_
          obtain ⟨a_16, ha_16, hf⟩ := bd_e hf
          refine Ct.callV (As := [.int (-4 : Int32)]) (rest := []) (st1 := [.int a_16.1]) (c_X4_refused l D cI A n t k g w z q (-4 : Int32) a_16 ha_16) hx hb hml hown hts (cwV 1 hts gX4_turn_X4_refused rfl rfl rfl hd_X4_refused ⟨Nat.le_of_ble_eq_true rfl, Nat.le_of_ble_eq_true rfl⟩) (va_recv hK hP (ci := 4) (q0 := 0) rfl cX_at0) (Ln.id rfl) hA hK hP hD hS rfl hl.1 rfl rfl (Nat.le_of_ble_eq_true rfl) dX4_turn_41 (fun H locs hP hD hS => ?_)
          replace hP : va_P D vwCl (cX cI A n t k g w z a_16.2) H := hP
          replace hD : va_D AA (cX cI A n t k g w z a_16.2) := hD
          exact hend (a_16.1, n, a_16.2) H locs _ _ hf hP hS dX4_turn_44
      · replace hf := if_f c_5 hf
        refine lv_aload_n hx hb dX4_turn_27 rfl (lv_at hl 0 rfl) ?_
        refine lv_bipush (v := -2) hx hb dX4_turn_28 (by decide +kernel) ?_
        obtain ⟨a_17, ha_17, hf⟩ := bd_e hf
        refine Ct.callV (As := [.int (-2 : Int32)]) (rest := []) (st1 := [.int a_17.1]) (c_X4_refused l D cI A n t k g w z q (-2 : Int32) a_17 ha_17) hx hb hml hown hts (cwV 1 hts gX4_turn_X4_refused rfl rfl rfl hd_X4_refused ⟨Nat.le_of_ble_eq_true rfl, Nat.le_of_ble_eq_true rfl⟩) (va_recv hK hP (ci := 4) (q0 := 0) rfl cX_at0) (Ln.id rfl) hA hK hP hD hS rfl hl.1 rfl rfl (Nat.le_of_ble_eq_true rfl) dX4_turn_30 (fun H locs hP hD hS => ?_)
        replace hP : va_P D vwCl (cX cI A n t k g w z a_17.2) H := hP
        replace hD : va_D AA (cX cI A n t k g w z a_17.2) := hD
        exact hend (a_17.1, n, a_17.2) H locs _ _ hf hP hS dX4_turn_33
  · replace hf := if_t c_2 hf
    refine lv_aload_n hx hb dX4_turn_11 rfl (lv_at hl 0 rfl) ?_
    refine lv_iconst (v := -1) hx hb dX4_turn_12 (by decide) ?_
    obtain ⟨a_18, ha_18, hf⟩ := bd_e hf
    refine Ct.callV (As := [.int (-1 : Int32)]) (rest := []) (st1 := [.int a_18.1]) (c_X4_refused l D cI A n t k g w z q (-1 : Int32) a_18 ha_18) hx hb hml hown hts (cwV 1 hts gX4_turn_X4_refused rfl rfl rfl hd_X4_refused ⟨Nat.le_of_ble_eq_true rfl, Nat.le_of_ble_eq_true rfl⟩) (va_recv hK hP (ci := 4) (q0 := 0) rfl cX_at0) (Ln.id rfl) hA hK hP hD hS rfl hl.1 rfl rfl (Nat.le_of_ble_eq_true rfl) dX4_turn_13 (fun H locs hP hD hS => ?_)
    replace hP : va_P D vwCl (cX cI A n t k g w z a_18.2) H := hP
    replace hD : va_D AA (cX cI A n t k g w z a_18.2) := hD
    exact hend (a_18.1, n, a_18.2) H locs _ _ hf hP hS dX4_turn_16

def f_X4_tides (n : St) (t : St) (k : St) (g : St) (w : St) (z : St) (q : St) (p1 : Int32) : Option (Int32 × St × St) := (if (1 : Int32) ≤ p1 then (if (60 : Int32) < p1 then (bd (f_X4_refused n t k g w z q (-6 : Int32)) fun a_3 => (some (a_3.1, n, a_3.2))) else (bd (f_X0_hasTidesLeft n p1) fun a_4 => (if a_4 = 0 then (bd (f_X4_refused n t k g w z q (-6 : Int32)) fun a_8 => (some (a_8.1, n, a_8.2))) else (bd (f_X0_passTides n p1) fun a_6 => (bd (f_X0_outBits a_6) fun a_7 => (some (a_7, a_6, q))))))) else (bd (f_X4_refused n t k g w z q (-4 : Int32)) fun a_9 => (some (a_9.1, n, a_9.2))))
def rm_X4_tides : Room := { frames := 3, cells := 0, slots := 0, locals := 64 }
theorem hd_X4_tides : yX4_tides.cls = RX4 ∧ yX4_tides.cls ≠ "java/lang/invoke/MethodHandle" ∧ yX4_tides.cls ≠ "java/lang/invoke/VarHandle" ∧ (parseMethodDescriptor yX4_tides.desc).map (fun d => d.parameters.length) = some 1 := by decide +kernel
set_option maxRecDepth 100000 in
set_option maxHeartbeats 4000000 in
theorem c_X4_tides (l : Launch) (D : va_G) (cI : ClassId) (A : Nat → Nat) (n : St) (t : St) (k : St) (g : St) (w : St) (z : St) (q : St) (p1 : Int32) (r : Int32 × St × St) (hf : f_X4_tides n t k g w z q p1 = some r) : Ct l yX4_tides wsX4_tides rm_X4_tides D cI (cX cI A n t k g w z q) (cX cI A r.2.1 t k g w z r.2.2) [.ref (A 0), .int p1] (some (.int r.1)) := by
  unfold f_X4_tides at hf
  refine Ct.ofI (cc := cX4_tides) (maxL := 2) (by decide +kernel) rfl (Nat.le_of_ble_eq_true rfl) ?_
  intro p e s m args below meth c AA Q H locs ls hx hb hml hown hts hA hK hP hD hS hl hend0
  have hend : ∀ (r1 : Int32 × St × St) (H : Heap) (locs : List Loc) (pc : Nat) (ls : Array Slot), some r1 = some r → va_P D vwCl (cX cI A r1.2.1 t k g w z r1.2.2) H → va_S AA s.heap H locs → decode cX4_tides pc = .ok (.ireturn, 1) → W p l e rm_X4_tides s m args below meth c H locs 0 0 Q (F0 m pc ls [.int r1.1]) := by
    intro r1 H locs pc ls e1 hP hS hd; cases e1; exact hend0 H locs pc ls hP hS hd
  clear hend0
  have hw4 : ∀ w ∈ wsX40, w ∈ wsX4_tides := by decide +kernel
  have k10 := hts (.fieldLink RX4 10 "AnchorsForConfession" "now" "LAnchorsForConfession$Harbour;") (by decide +kernel)
  replace hl : lv_has ls 2 [(0, .ref (A 0)), (1, .int p1)] := hl
  refine lv_iload_n hx hb dX4_tides_0 rfl (lv_at hl 1 rfl) ?_
  refine lv_iconst (v := 1) hx hb dX4_tides_1 (by decide) ?_
  refine lv_icmp_ge (tgt := 12) hx hb dX4_tides_2 (by decide) (fun c_1 => ?_) (fun c_1 => ?_)
  · replace hf := if_t c_1 hf
    refine lv_iload_n hx hb dX4_tides_12 rfl (lv_at hl 1 rfl) ?_
    refine lv_bipush (v := 60) hx hb dX4_tides_13 (by decide +kernel) ?_
    refine lv_icmp_gt (tgt := 29) hx hb dX4_tides_15 (by decide) (fun c_2 => ?_) (fun c_2 => ?_)
    · replace hf := if_t c_2 hf
      refine lv_aload_n hx hb dX4_tides_29 rfl (lv_at hl 0 rfl) ?_
      refine lv_bipush (v := -6) hx hb dX4_tides_30 (by decide +kernel) ?_
      obtain ⟨a_3, ha_3, hf⟩ := bd_e hf
      refine Ct.callV (As := [.int (-6 : Int32)]) (rest := []) (st1 := [.int a_3.1]) (c_X4_refused l D cI A n t k g w z q (-6 : Int32) a_3 ha_3) hx hb hml hown hts (cwV 1 hts gX4_tides_X4_refused rfl rfl rfl hd_X4_refused ⟨Nat.le_of_ble_eq_true rfl, Nat.le_of_ble_eq_true rfl⟩) (va_recv hK hP (ci := 4) (q0 := 0) rfl cX_at0) (Ln.id rfl) hA hK hP hD hS rfl hl.1 rfl rfl (Nat.le_of_ble_eq_true rfl) dX4_tides_32 (fun H locs hP hD hS => ?_)
      replace hP : va_P D vwCl (cX cI A n t k g w z a_3.2) H := hP
      replace hD : va_D AA (cX cI A n t k g w z a_3.2) := hD
      exact hend (a_3.1, n, a_3.2) H locs _ _ hf hP hS dX4_tides_35
    · replace hf := if_f c_2 hf
      refine lv_aload_n hx hb dX4_tides_18 rfl (lv_at hl 0 rfl) ?_
      refine va_get (D := D) (ci := 4) (v := .ref (A 1)) (C := RX4) (T := TX4) (N := 8) hx hb hts hw4 hown hK hP 0 cX_at0 rfl 0 (by decide) k10 (fun _ h9 => h9) rfl dX4_tides_19 ?_
      refine lv_iload_n hx hb dX4_tides_22 rfl (lv_at hl 1 rfl) ?_
      obtain ⟨a_4, ha_4, hf⟩ := bd_e hf
      refine Ct.callV (As := [.int p1]) (rest := []) (st1 := [.int a_4]) (c_X0_hasTidesLeft l D cI (fun j => A (1 + j)) n p1 a_4 ha_4) hx hb hml hown hts (cwV 1 hts gX4_tides_X0_hasTidesLeft rfl rfl rfl hd_X0_hasTidesLeft ⟨Nat.le_of_ble_eq_true rfl, Nat.le_of_ble_eq_true rfl⟩) (va_recv hK hP (ci := 0) (q0 := 1) rfl cX_at1) ln_X_H_n hA hK hP hD hS rfl hl.1 rfl rfl (Nat.le_of_ble_eq_true rfl) dX4_tides_23 (fun H locs hP hD hS => ?_)
      refine lv_if_ne (tgt := 36) hx hb dX4_tides_26 (by decide) (fun c_5 => ?_) (fun c_5 => ?_)
      · replace hf := if_f c_5 hf
        refine lv_aload_n hx hb dX4_tides_36 rfl (lv_at hl 0 rfl) ?_
        refine va_get (D := D) (ci := 4) (v := .ref (A 1)) (C := RX4) (T := TX4) (N := 8) hx hb hts hw4 hown hK hP 0 cX_at0 rfl 0 (by decide) k10 (fun _ h9 => h9) rfl dX4_tides_37 ?_
        refine lv_iload_n hx hb dX4_tides_40 rfl (lv_at hl 1 rfl) ?_
        obtain ⟨a_6, ha_6, hf⟩ := bd_e hf
        refine Ct.callV (As := [.int p1]) (rest := []) (st1 := []) (c_X0_passTides l D cI (fun j => A (1 + j)) n p1 a_6 ha_6) hx hb hml hown hts (cwV 1 hts gX4_tides_X0_passTides rfl rfl rfl hd_X0_passTides ⟨Nat.le_of_ble_eq_true rfl, Nat.le_of_ble_eq_true rfl⟩) (va_recv hK hP (ci := 0) (q0 := 1) rfl cX_at1) ln_X_H_n hA hK hP hD hS rfl hl.1 rfl rfl (Nat.le_of_ble_eq_true rfl) dX4_tides_41 (fun H locs hP hD hS => ?_)
        replace hP : va_P D vwCl (cX cI A a_6 t k g w z q) H := hP
        replace hD : va_D AA (cX cI A a_6 t k g w z q) := hD
        refine lv_aload_n hx hb dX4_tides_44 rfl (lv_at hl 0 rfl) ?_
        refine va_get (D := D) (ci := 4) (v := .ref (A 1)) (C := RX4) (T := TX4) (N := 8) hx hb hts hw4 hown hK hP 0 cX_at0 rfl 0 (by decide) k10 (fun _ h9 => h9) rfl dX4_tides_45 ?_
        obtain ⟨a_7, ha_7, hf⟩ := bd_e hf
        refine Ct.callV (As := []) (rest := []) (st1 := [.int a_7]) (c_X0_outBits l D cI (fun j => A (1 + j)) a_6 a_7 ha_7) hx hb hml hown hts (cwV 0 hts gX4_tides_X0_outBits rfl rfl rfl hd_X0_outBits ⟨Nat.le_of_ble_eq_true rfl, Nat.le_of_ble_eq_true rfl⟩) (va_recv hK hP (ci := 0) (q0 := 1) rfl cX_at1) ln_X_H_n hA hK hP hD hS rfl hl.1 rfl rfl (Nat.le_of_ble_eq_true rfl) dX4_tides_48 (fun H locs hP hD hS => ?_)
        exact hend (a_7, a_6, q) H locs _ _ hf hP hS dX4_tides_51
      · replace hf := if_t c_5 hf
        refine lv_aload_n hx hb dX4_tides_29 rfl (lv_at hl 0 rfl) ?_
        refine lv_bipush (v := -6) hx hb dX4_tides_30 (by decide +kernel) ?_
        obtain ⟨a_8, ha_8, hf⟩ := bd_e hf
        refine Ct.callV (As := [.int (-6 : Int32)]) (rest := []) (st1 := [.int a_8.1]) (c_X4_refused l D cI A n t k g w z q (-6 : Int32) a_8 ha_8) hx hb hml hown hts (cwV 1 hts gX4_tides_X4_refused rfl rfl rfl hd_X4_refused ⟨Nat.le_of_ble_eq_true rfl, Nat.le_of_ble_eq_true rfl⟩) (va_recv hK hP (ci := 4) (q0 := 0) rfl cX_at0) (Ln.id rfl) hA hK hP hD hS rfl hl.1 rfl rfl (Nat.le_of_ble_eq_true rfl) dX4_tides_32 (fun H locs hP hD hS => ?_)
        replace hP : va_P D vwCl (cX cI A n t k g w z a_8.2) H := hP
        replace hD : va_D AA (cX cI A n t k g w z a_8.2) := hD
        exact hend (a_8.1, n, a_8.2) H locs _ _ hf hP hS dX4_tides_35
  · replace hf := if_f c_1 hf
    refine lv_aload_n hx hb dX4_tides_5 rfl (lv_at hl 0 rfl) ?_
    refine lv_bipush (v := -4) hx hb dX4_tides_6 (by decide +kernel) ?_
    obtain ⟨a_9, ha_9, hf⟩ := bd_e hf
    refine Ct.callV (As := [.int (-4 : Int32)]) (rest := []) (st1 := [.int a_9.1]) (c_X4_refused l D cI A n t k g w z q (-4 : Int32) a_9 ha_9) hx hb hml hown hts (cwV 1 hts gX4_tides_X4_refused rfl rfl rfl hd_X4_refused ⟨Nat.le_of_ble_eq_true rfl, Nat.le_of_ble_eq_true rfl⟩) (va_recv hK hP (ci := 4) (q0 := 0) rfl cX_at0) (Ln.id rfl) hA hK hP hD hS rfl hl.1 rfl rfl (Nat.le_of_ble_eq_true rfl) dX4_tides_8 (fun H locs hP hD hS => ?_)
    replace hP : va_P D vwCl (cX cI A n t k g w z a_9.2) H := hP
    replace hD : va_D AA (cX cI A n t k g w z a_9.2) := hD
    exact hend (a_9.1, n, a_9.2) H locs _ _ hf hP hS dX4_tides_11

def f_X4_ship (n : St) (t : St) (k : St) (g : St) (w : St) (z : St) (q : St) (p1 : Int32) (p2 : Int32) : Option (Int32 × St) := (bd (f_X0_hasShip n p1) fun a_1 => (if a_1 = 0 then (bd (f_X4_refused n t k g w z q (-1 : Int32)) fun a_18 => (some (a_18.1, a_18.2))) else (if p2 = 0 then (gi p1 5 (some ((n 1 (p1).toNatClampNeg), q))) else (if p2 = 1 then (gi p1 5 (some ((n 2 (p1).toNatClampNeg), q))) else (if p2 = 2 then (gi p1 5 (some ((n 3 (p1).toNatClampNeg), q))) else (if p2 = 3 then (bd (f_X0_holds n p1) fun a_10 => (some (a_10, q))) else (if p2 = 4 then (bd (f_X0_lacks n p1) fun a_12 => (some (a_12, q))) else (if p2 = 5 then (bd (f_X0_pool n p1) fun a_14 => (some (a_14, q))) else (if p2 = 6 then (bd (f_X0_crew n p1) fun a_16 => (some (a_16, q))) else (bd (f_X4_refused n t k g w z q (-2 : Int32)) fun a_17 => (some (a_17.1, a_17.2))))))))))))
def rm_X4_ship : Room := { frames := 3, cells := 0, slots := 0, locals := 67 }
theorem hd_X4_ship : yX4_ship.cls = RX4 ∧ yX4_ship.cls ≠ "java/lang/invoke/MethodHandle" ∧ yX4_ship.cls ≠ "java/lang/invoke/VarHandle" ∧ (parseMethodDescriptor yX4_ship.desc).map (fun d => d.parameters.length) = some 2 := by decide +kernel
set_option maxRecDepth 100000 in
set_option maxHeartbeats 4000000 in
theorem c_X4_ship (l : Launch) (D : va_G) (cI : ClassId) (A : Nat → Nat) (n : St) (t : St) (k : St) (g : St) (w : St) (z : St) (q : St) (p1 : Int32) (p2 : Int32) (r : Int32 × St) (hf : f_X4_ship n t k g w z q p1 p2 = some r) : Ct l yX4_ship wsX4_ship rm_X4_ship D cI (cX cI A n t k g w z q) (cX cI A n t k g w z r.2) [.ref (A 0), .int p1, .int p2] (some (.int r.1)) := by
  unfold f_X4_ship at hf
  refine Ct.ofI (cc := cX4_ship) (maxL := 3) (by decide +kernel) rfl (Nat.le_of_ble_eq_true rfl) ?_
  intro p e s m args below meth c AA Q H locs ls hx hb hml hown hts hA hK hP hD hS hl hend0
  have hend : ∀ (r1 : Int32 × St) (H : Heap) (locs : List Loc) (pc : Nat) (ls : Array Slot), some r1 = some r → va_P D vwCl (cX cI A n t k g w z r1.2) H → va_S AA s.heap H locs → decode cX4_ship pc = .ok (.ireturn, 1) → W p l e rm_X4_ship s m args below meth c H locs 0 0 Q (F0 m pc ls [.int r1.1]) := by
    intro r1 H locs pc ls e1 hP hS hd; cases e1; exact hend0 H locs pc ls hP hS hd
  clear hend0
  have hw0 : ∀ w ∈ wsX00, w ∈ wsX4_ship := by decide +kernel
  have hw4 : ∀ w ∈ wsX40, w ∈ wsX4_ship := by decide +kernel
  have k10 := hts (.fieldLink RX4 10 "AnchorsForConfession" "now" "LAnchorsForConfession$Harbour;") (by decide +kernel)
  have k92 := hts (.fieldLink RX4 92 "AnchorsForConfession$Harbour" "heavy" "[I") (by decide +kernel)
  have k112 := hts (.fieldLink RX4 112 "AnchorsForConfession$Harbour" "loose" "[I") (by decide +kernel)
  have k115 := hts (.fieldLink RX4 115 "AnchorsForConfession$Harbour" "outFor" "[I") (by decide +kernel)
  replace hl : lv_has ls 3 [(0, .ref (A 0)), (1, .int p1), (2, .int p2)] := hl
  refine lv_aload_n hx hb dX4_ship_0 rfl (lv_at hl 0 rfl) ?_
  refine va_get (D := D) (ci := 4) (v := .ref (A 1)) (C := RX4) (T := TX4) (N := 8) hx hb hts hw4 hown hK hP 0 cX_at0 rfl 0 (by decide) k10 (fun _ h9 => h9) rfl dX4_ship_1 ?_
  refine lv_iload_n hx hb dX4_ship_4 rfl (lv_at hl 1 rfl) ?_
  obtain ⟨a_1, ha_1, hf⟩ := bd_e hf
  refine Ct.callV (As := [.int p1]) (rest := []) (st1 := [.int a_1]) (c_X0_hasShip l D cI (fun j => A (1 + j)) n p1 a_1 ha_1) hx hb hml hown hts (cwV 1 hts gX4_ship_X0_hasShip rfl rfl rfl hd_X0_hasShip ⟨Nat.le_of_ble_eq_true rfl, Nat.le_of_ble_eq_true rfl⟩) (va_recv hK hP (ci := 0) (q0 := 1) rfl cX_at1) ln_X_H_n hA hK hP hD hS rfl hl.1 rfl rfl (Nat.le_of_ble_eq_true rfl) dX4_ship_5 (fun H locs hP hD hS => ?_)
  refine lv_if_ne (tgt := 17) hx hb dX4_ship_8 (by decide) (fun c_2 => ?_) (fun c_2 => ?_)
  · replace hf := if_f c_2 hf
    refine lv_iload_n hx hb dX4_ship_17 rfl (lv_at hl 2 rfl) ?_
    by_cases c_3 : p2 = 0
    · replace hf := if_t c_3 hf
      refine lv_tableIn (off := 42) (tgt := 60) hx hb dX4_ship_18 (by rw [c_3]; decide +kernel) (by rw [c_3]; decide +kernel) (by rw [c_3]; decide +kernel) (by decide) ?_
      refine lv_aload_n hx hb dX4_ship_60 rfl (lv_at hl 0 rfl) ?_
      refine va_get (D := D) (ci := 4) (v := .ref (A 1)) (C := RX4) (T := TX4) (N := 8) hx hb hts hw4 hown hK hP 0 cX_at0 rfl 0 (by decide) k10 (fun _ h9 => h9) rfl dX4_ship_61 ?_
      refine va_get (D := D) (ci := 0) (v := .ref (A 2)) (C := RX0) (T := TX0) (N := 12) hx hb hts hw0 hown hK hP 1 cX_at1 rfl 1 (by decide) k92 (fun _ h9 => h9) rfl dX4_ship_64 ?_
      refine lv_iload_n hx hb dX4_ship_67 rfl (lv_at hl 1 rfl) ?_
      obtain ⟨c_4, hf⟩ := gi_e hf
      refine va_iald hx hb hK hP 2 0 cX_at2 rfl c_4 dX4_ship_68 ?_
      exact hend ((n 1 (p1).toNatClampNeg), q) H locs _ _ hf hP hS dX4_ship_69
    · replace hf := if_f c_3 hf
      by_cases c_5 : p2 = 1
      · replace hf := if_t c_5 hf
        refine lv_tableIn (off := 52) (tgt := 70) hx hb dX4_ship_18 (by rw [c_5]; decide +kernel) (by rw [c_5]; decide +kernel) (by rw [c_5]; decide +kernel) (by decide) ?_
        refine lv_aload_n hx hb dX4_ship_70 rfl (lv_at hl 0 rfl) ?_
        refine va_get (D := D) (ci := 4) (v := .ref (A 1)) (C := RX4) (T := TX4) (N := 8) hx hb hts hw4 hown hK hP 0 cX_at0 rfl 0 (by decide) k10 (fun _ h9 => h9) rfl dX4_ship_71 ?_
        refine va_get (D := D) (ci := 0) (v := .ref (A 3)) (C := RX0) (T := TX0) (N := 12) hx hb hts hw0 hown hK hP 1 cX_at1 rfl 2 (by decide) k112 (fun _ h9 => h9) rfl dX4_ship_74 ?_
        refine lv_iload_n hx hb dX4_ship_77 rfl (lv_at hl 1 rfl) ?_
        obtain ⟨c_6, hf⟩ := gi_e hf
        refine va_iald hx hb hK hP 3 0 cX_at3 rfl c_6 dX4_ship_78 ?_
        exact hend ((n 2 (p1).toNatClampNeg), q) H locs _ _ hf hP hS dX4_ship_79
      · replace hf := if_f c_5 hf
        by_cases c_7 : p2 = 2
        · replace hf := if_t c_7 hf
          refine lv_tableIn (off := 62) (tgt := 80) hx hb dX4_ship_18 (by rw [c_7]; decide +kernel) (by rw [c_7]; decide +kernel) (by rw [c_7]; decide +kernel) (by decide) ?_
          refine lv_aload_n hx hb dX4_ship_80 rfl (lv_at hl 0 rfl) ?_
          refine va_get (D := D) (ci := 4) (v := .ref (A 1)) (C := RX4) (T := TX4) (N := 8) hx hb hts hw4 hown hK hP 0 cX_at0 rfl 0 (by decide) k10 (fun _ h9 => h9) rfl dX4_ship_81 ?_
          refine va_get (D := D) (ci := 0) (v := .ref (A 4)) (C := RX0) (T := TX0) (N := 12) hx hb hts hw0 hown hK hP 1 cX_at1 rfl 3 (by decide) k115 (fun _ h9 => h9) rfl dX4_ship_84 ?_
          refine lv_iload_n hx hb dX4_ship_87 rfl (lv_at hl 1 rfl) ?_
          obtain ⟨c_8, hf⟩ := gi_e hf
          refine va_iald hx hb hK hP 4 0 cX_at4 rfl c_8 dX4_ship_88 ?_
          exact hend ((n 3 (p1).toNatClampNeg), q) H locs _ _ hf hP hS dX4_ship_89
        · replace hf := if_f c_7 hf
          by_cases c_9 : p2 = 3
          · replace hf := if_t c_9 hf
            refine lv_tableIn (off := 72) (tgt := 90) hx hb dX4_ship_18 (by rw [c_9]; decide +kernel) (by rw [c_9]; decide +kernel) (by rw [c_9]; decide +kernel) (by decide) ?_
            refine lv_aload_n hx hb dX4_ship_90 rfl (lv_at hl 0 rfl) ?_
            refine va_get (D := D) (ci := 4) (v := .ref (A 1)) (C := RX4) (T := TX4) (N := 8) hx hb hts hw4 hown hK hP 0 cX_at0 rfl 0 (by decide) k10 (fun _ h9 => h9) rfl dX4_ship_91 ?_
            refine lv_iload_n hx hb dX4_ship_94 rfl (lv_at hl 1 rfl) ?_
            obtain ⟨a_10, ha_10, hf⟩ := bd_e hf
            refine Ct.callV (As := [.int p1]) (rest := []) (st1 := [.int a_10]) (c_X0_holds l D cI (fun j => A (1 + j)) n p1 a_10 ha_10) hx hb hml hown hts (cwV 1 hts gX4_ship_X0_holds rfl rfl rfl hd_X0_holds ⟨Nat.le_of_ble_eq_true rfl, Nat.le_of_ble_eq_true rfl⟩) (va_recv hK hP (ci := 0) (q0 := 1) rfl cX_at1) ln_X_H_n hA hK hP hD hS rfl hl.1 rfl rfl (Nat.le_of_ble_eq_true rfl) dX4_ship_95 (fun H locs hP hD hS => ?_)
            exact hend (a_10, q) H locs _ _ hf hP hS dX4_ship_98
          · replace hf := if_f c_9 hf
            by_cases c_11 : p2 = 4
            · replace hf := if_t c_11 hf
              refine lv_tableIn (off := 81) (tgt := 99) hx hb dX4_ship_18 (by rw [c_11]; decide +kernel) (by rw [c_11]; decide +kernel) (by rw [c_11]; decide +kernel) (by decide) ?_
              refine lv_aload_n hx hb dX4_ship_99 rfl (lv_at hl 0 rfl) ?_
              refine va_get (D := D) (ci := 4) (v := .ref (A 1)) (C := RX4) (T := TX4) (N := 8) hx hb hts hw4 hown hK hP 0 cX_at0 rfl 0 (by decide) k10 (fun _ h9 => h9) rfl dX4_ship_100 ?_
              refine lv_iload_n hx hb dX4_ship_103 rfl (lv_at hl 1 rfl) ?_
              obtain ⟨a_12, ha_12, hf⟩ := bd_e hf
              refine Ct.callV (As := [.int p1]) (rest := []) (st1 := [.int a_12]) (c_X0_lacks l D cI (fun j => A (1 + j)) n p1 a_12 ha_12) hx hb hml hown hts (cwV 1 hts gX4_ship_X0_lacks rfl rfl rfl hd_X0_lacks ⟨Nat.le_of_ble_eq_true rfl, Nat.le_of_ble_eq_true rfl⟩) (va_recv hK hP (ci := 0) (q0 := 1) rfl cX_at1) ln_X_H_n hA hK hP hD hS rfl hl.1 rfl rfl (Nat.le_of_ble_eq_true rfl) dX4_ship_104 (fun H locs hP hD hS => ?_)
              exact hend (a_12, q) H locs _ _ hf hP hS dX4_ship_107
            · replace hf := if_f c_11 hf
              by_cases c_13 : p2 = 5
              · replace hf := if_t c_13 hf
                refine lv_tableIn (off := 90) (tgt := 108) hx hb dX4_ship_18 (by rw [c_13]; decide +kernel) (by rw [c_13]; decide +kernel) (by rw [c_13]; decide +kernel) (by decide) ?_
                refine lv_aload_n hx hb dX4_ship_108 rfl (lv_at hl 0 rfl) ?_
                refine va_get (D := D) (ci := 4) (v := .ref (A 1)) (C := RX4) (T := TX4) (N := 8) hx hb hts hw4 hown hK hP 0 cX_at0 rfl 0 (by decide) k10 (fun _ h9 => h9) rfl dX4_ship_109 ?_
                refine lv_iload_n hx hb dX4_ship_112 rfl (lv_at hl 1 rfl) ?_
                obtain ⟨a_14, ha_14, hf⟩ := bd_e hf
                refine Ct.callV (As := [.int p1]) (rest := []) (st1 := [.int a_14]) (c_X0_pool l D cI (fun j => A (1 + j)) n p1 a_14 ha_14) hx hb hml hown hts (cwV 1 hts gX4_ship_X0_pool rfl rfl rfl hd_X0_pool ⟨Nat.le_of_ble_eq_true rfl, Nat.le_of_ble_eq_true rfl⟩) (va_recv hK hP (ci := 0) (q0 := 1) rfl cX_at1) ln_X_H_n hA hK hP hD hS rfl hl.1 rfl rfl (Nat.le_of_ble_eq_true rfl) dX4_ship_113 (fun H locs hP hD hS => ?_)
                exact hend (a_14, q) H locs _ _ hf hP hS dX4_ship_116
              · replace hf := if_f c_13 hf
                by_cases c_15 : p2 = 6
                · replace hf := if_t c_15 hf
                  refine lv_tableIn (off := 99) (tgt := 117) hx hb dX4_ship_18 (by rw [c_15]; decide +kernel) (by rw [c_15]; decide +kernel) (by rw [c_15]; decide +kernel) (by decide) ?_
                  refine lv_aload_n hx hb dX4_ship_117 rfl (lv_at hl 0 rfl) ?_
                  refine va_get (D := D) (ci := 4) (v := .ref (A 1)) (C := RX4) (T := TX4) (N := 8) hx hb hts hw4 hown hK hP 0 cX_at0 rfl 0 (by decide) k10 (fun _ h9 => h9) rfl dX4_ship_118 ?_
                  refine lv_iload_n hx hb dX4_ship_121 rfl (lv_at hl 1 rfl) ?_
                  obtain ⟨a_16, ha_16, hf⟩ := bd_e hf
                  refine Ct.callV (As := [.int p1]) (rest := []) (st1 := [.int a_16]) (c_X0_crew l D cI (fun j => A (1 + j)) n p1 a_16 ha_16) hx hb hml hown hts (cwV 1 hts gX4_ship_X0_crew rfl rfl rfl hd_X0_crew ⟨Nat.le_of_ble_eq_true rfl, Nat.le_of_ble_eq_true rfl⟩) (va_recv hK hP (ci := 0) (q0 := 1) rfl cX_at1) ln_X_H_n hA hK hP hD hS rfl hl.1 rfl rfl (Nat.le_of_ble_eq_true rfl) dX4_ship_122 (fun H locs hP hD hS => ?_)
                  exact hend (a_16, q) H locs _ _ hf hP hS dX4_ship_125
                · replace hf := if_f c_15 hf
                  have ht : (p2).toInt < 0 ∨ 6 < (p2).toInt := by
                    have t0 := lv_neT (a := 0) c_3 (by decide +kernel)
                    have t1 := lv_neT (a := 1) c_5 (by decide +kernel)
                    have t2 := lv_neT (a := 2) c_7 (by decide +kernel)
                    have t3 := lv_neT (a := 3) c_9 (by decide +kernel)
                    have t4 := lv_neT (a := 4) c_11 (by decide +kernel)
                    have t5 := lv_neT (a := 5) c_13 (by decide +kernel)
                    have t6 := lv_neT (a := 6) c_15 (by decide +kernel)
                    omega
                  refine lv_tableOut (tgt := 126) hx hb dX4_ship_18 ht (by decide) ?_
                  refine lv_aload_n hx hb dX4_ship_126 rfl (lv_at hl 0 rfl) ?_
                  refine lv_bipush (v := -2) hx hb dX4_ship_127 (by decide +kernel) ?_
                  obtain ⟨a_17, ha_17, hf⟩ := bd_e hf
                  refine Ct.callV (As := [.int (-2 : Int32)]) (rest := []) (st1 := [.int a_17.1]) (c_X4_refused l D cI A n t k g w z q (-2 : Int32) a_17 ha_17) hx hb hml hown hts (cwV 1 hts gX4_ship_X4_refused rfl rfl rfl hd_X4_refused ⟨Nat.le_of_ble_eq_true rfl, Nat.le_of_ble_eq_true rfl⟩) (va_recv hK hP (ci := 4) (q0 := 0) rfl cX_at0) (Ln.id rfl) hA hK hP hD hS rfl hl.1 rfl rfl (Nat.le_of_ble_eq_true rfl) dX4_ship_129 (fun H locs hP hD hS => ?_)
                  replace hP : va_P D vwCl (cX cI A n t k g w z a_17.2) H := hP
                  replace hD : va_D AA (cX cI A n t k g w z a_17.2) := hD
                  exact hend (a_17.1, a_17.2) H locs _ _ hf hP hS dX4_ship_132
  · replace hf := if_t c_2 hf
    refine lv_aload_n hx hb dX4_ship_11 rfl (lv_at hl 0 rfl) ?_
    refine lv_iconst (v := -1) hx hb dX4_ship_12 (by decide) ?_
    obtain ⟨a_18, ha_18, hf⟩ := bd_e hf
    refine Ct.callV (As := [.int (-1 : Int32)]) (rest := []) (st1 := [.int a_18.1]) (c_X4_refused l D cI A n t k g w z q (-1 : Int32) a_18 ha_18) hx hb hml hown hts (cwV 1 hts gX4_ship_X4_refused rfl rfl rfl hd_X4_refused ⟨Nat.le_of_ble_eq_true rfl, Nat.le_of_ble_eq_true rfl⟩) (va_recv hK hP (ci := 4) (q0 := 0) rfl cX_at0) (Ln.id rfl) hA hK hP hD hS rfl hl.1 rfl rfl (Nat.le_of_ble_eq_true rfl) dX4_ship_13 (fun H locs hP hD hS => ?_)
    replace hP : va_P D vwCl (cX cI A n t k g w z a_18.2) H := hP
    replace hD : va_D AA (cX cI A n t k g w z a_18.2) := hD
    exact hend (a_18.1, a_18.2) H locs _ _ hf hP hS dX4_ship_16

def f_X4_man (n : St) (t : St) (k : St) (g : St) (w : St) (z : St) (q : St) (p1 : Int32) (p2 : Int32) : Option (Int32 × St) := (bd (f_X0_hasMan n p1) fun a_1 => (if a_1 = 0 then (bd (f_X4_refused n t k g w z q (-1 : Int32)) fun a_19 => (some (a_19.1, a_19.2))) else (if p2 = 0 then (gi p1 8 (some ((n 4 (p1).toNatClampNeg), q))) else (if p2 = 1 then (gi p1 8 (some ((n 5 (p1).toNatClampNeg), q))) else (if p2 = 2 then (gi p1 8 (some ((n 6 (p1).toNatClampNeg), q))) else (if p2 = 3 then (gi p1 8 (some ((n 7 (p1).toNatClampNeg), q))) else (if p2 = 4 then (bd (f_X0_worth n p1) fun a_12 => (some (a_12, q))) else (if p2 = 5 then (bd (f_X0_carried n p1) fun a_14 => (some (a_14, q))) else (if p2 = 6 then (bd (f_X0_canTell n p1) fun a_16 => (if a_16 = 0 then (some ((0 : Int32), q)) else (some ((1 : Int32), q)))) else (bd (f_X4_refused n t k g w z q (-2 : Int32)) fun a_18 => (some (a_18.1, a_18.2))))))))))))
def rm_X4_man : Room := { frames := 3, cells := 0, slots := 0, locals := 65 }
theorem hd_X4_man : yX4_man.cls = RX4 ∧ yX4_man.cls ≠ "java/lang/invoke/MethodHandle" ∧ yX4_man.cls ≠ "java/lang/invoke/VarHandle" ∧ (parseMethodDescriptor yX4_man.desc).map (fun d => d.parameters.length) = some 2 := by decide +kernel
set_option maxRecDepth 100000 in
set_option maxHeartbeats 4000000 in
theorem c_X4_man (l : Launch) (D : va_G) (cI : ClassId) (A : Nat → Nat) (n : St) (t : St) (k : St) (g : St) (w : St) (z : St) (q : St) (p1 : Int32) (p2 : Int32) (r : Int32 × St) (hf : f_X4_man n t k g w z q p1 p2 = some r) : Ct l yX4_man wsX4_man rm_X4_man D cI (cX cI A n t k g w z q) (cX cI A n t k g w z r.2) [.ref (A 0), .int p1, .int p2] (some (.int r.1)) := by
  unfold f_X4_man at hf
  refine Ct.ofI (cc := cX4_man) (maxL := 3) (by decide +kernel) rfl (Nat.le_of_ble_eq_true rfl) ?_
  intro p e s m args below meth c AA Q H locs ls hx hb hml hown hts hA hK hP hD hS hl hend0
  have hend : ∀ (r1 : Int32 × St) (H : Heap) (locs : List Loc) (pc : Nat) (ls : Array Slot), some r1 = some r → va_P D vwCl (cX cI A n t k g w z r1.2) H → va_S AA s.heap H locs → decode cX4_man pc = .ok (.ireturn, 1) → W p l e rm_X4_man s m args below meth c H locs 0 0 Q (F0 m pc ls [.int r1.1]) := by
    intro r1 H locs pc ls e1 hP hS hd; cases e1; exact hend0 H locs pc ls hP hS hd
  clear hend0
  have hw0 : ∀ w ∈ wsX00, w ∈ wsX4_man := by decide +kernel
  have hw4 : ∀ w ∈ wsX40, w ∈ wsX4_man := by decide +kernel
  have k10 := hts (.fieldLink RX4 10 "AnchorsForConfession" "now" "LAnchorsForConfession$Harbour;") (by decide +kernel)
  have k86 := hts (.fieldLink RX4 86 "AnchorsForConfession$Harbour" "aboard" "[I") (by decide +kernel)
  have k89 := hts (.fieldLink RX4 89 "AnchorsForConfession$Harbour" "sinsOf" "[I") (by decide +kernel)
  have k95 := hts (.fieldLink RX4 95 "AnchorsForConfession$Harbour" "kind" "[I") (by decide +kernel)
  have k98 := hts (.fieldLink RX4 98 "AnchorsForConfession$Harbour" "figure" "[I") (by decide +kernel)
  replace hl : lv_has ls 3 [(0, .ref (A 0)), (1, .int p1), (2, .int p2)] := hl
  refine lv_aload_n hx hb dX4_man_0 rfl (lv_at hl 0 rfl) ?_
  refine va_get (D := D) (ci := 4) (v := .ref (A 1)) (C := RX4) (T := TX4) (N := 8) hx hb hts hw4 hown hK hP 0 cX_at0 rfl 0 (by decide) k10 (fun _ h9 => h9) rfl dX4_man_1 ?_
  refine lv_iload_n hx hb dX4_man_4 rfl (lv_at hl 1 rfl) ?_
  obtain ⟨a_1, ha_1, hf⟩ := bd_e hf
  refine Ct.callV (As := [.int p1]) (rest := []) (st1 := [.int a_1]) (c_X0_hasMan l D cI (fun j => A (1 + j)) n p1 a_1 ha_1) hx hb hml hown hts (cwV 1 hts gX4_man_X0_hasMan rfl rfl rfl hd_X0_hasMan ⟨Nat.le_of_ble_eq_true rfl, Nat.le_of_ble_eq_true rfl⟩) (va_recv hK hP (ci := 0) (q0 := 1) rfl cX_at1) ln_X_H_n hA hK hP hD hS rfl hl.1 rfl rfl (Nat.le_of_ble_eq_true rfl) dX4_man_5 (fun H locs hP hD hS => ?_)
  refine lv_if_ne (tgt := 17) hx hb dX4_man_8 (by decide) (fun c_2 => ?_) (fun c_2 => ?_)
  · replace hf := if_f c_2 hf
    refine lv_iload_n hx hb dX4_man_17 rfl (lv_at hl 2 rfl) ?_
    by_cases c_3 : p2 = 0
    · replace hf := if_t c_3 hf
      refine lv_tableIn (off := 42) (tgt := 60) hx hb dX4_man_18 (by rw [c_3]; decide +kernel) (by rw [c_3]; decide +kernel) (by rw [c_3]; decide +kernel) (by decide) ?_
      refine lv_aload_n hx hb dX4_man_60 rfl (lv_at hl 0 rfl) ?_
      refine va_get (D := D) (ci := 4) (v := .ref (A 1)) (C := RX4) (T := TX4) (N := 8) hx hb hts hw4 hown hK hP 0 cX_at0 rfl 0 (by decide) k10 (fun _ h9 => h9) rfl dX4_man_61 ?_
      refine va_get (D := D) (ci := 0) (v := .ref (A 5)) (C := RX0) (T := TX0) (N := 12) hx hb hts hw0 hown hK hP 1 cX_at1 rfl 5 (by decide) k95 (fun _ h9 => h9) rfl dX4_man_64 ?_
      refine lv_iload_n hx hb dX4_man_67 rfl (lv_at hl 1 rfl) ?_
      obtain ⟨c_4, hf⟩ := gi_e hf
      refine va_iald hx hb hK hP 5 0 cX_at5 rfl c_4 dX4_man_68 ?_
      exact hend ((n 4 (p1).toNatClampNeg), q) H locs _ _ hf hP hS dX4_man_69
    · replace hf := if_f c_3 hf
      by_cases c_5 : p2 = 1
      · replace hf := if_t c_5 hf
        refine lv_tableIn (off := 52) (tgt := 70) hx hb dX4_man_18 (by rw [c_5]; decide +kernel) (by rw [c_5]; decide +kernel) (by rw [c_5]; decide +kernel) (by decide) ?_
        refine lv_aload_n hx hb dX4_man_70 rfl (lv_at hl 0 rfl) ?_
        refine va_get (D := D) (ci := 4) (v := .ref (A 1)) (C := RX4) (T := TX4) (N := 8) hx hb hts hw4 hown hK hP 0 cX_at0 rfl 0 (by decide) k10 (fun _ h9 => h9) rfl dX4_man_71 ?_
        refine va_get (D := D) (ci := 0) (v := .ref (A 6)) (C := RX0) (T := TX0) (N := 12) hx hb hts hw0 hown hK hP 1 cX_at1 rfl 6 (by decide) k98 (fun _ h9 => h9) rfl dX4_man_74 ?_
        refine lv_iload_n hx hb dX4_man_77 rfl (lv_at hl 1 rfl) ?_
        obtain ⟨c_6, hf⟩ := gi_e hf
        refine va_iald hx hb hK hP 6 0 cX_at6 rfl c_6 dX4_man_78 ?_
        exact hend ((n 5 (p1).toNatClampNeg), q) H locs _ _ hf hP hS dX4_man_79
      · replace hf := if_f c_5 hf
        by_cases c_7 : p2 = 2
        · replace hf := if_t c_7 hf
          refine lv_tableIn (off := 62) (tgt := 80) hx hb dX4_man_18 (by rw [c_7]; decide +kernel) (by rw [c_7]; decide +kernel) (by rw [c_7]; decide +kernel) (by decide) ?_
          refine lv_aload_n hx hb dX4_man_80 rfl (lv_at hl 0 rfl) ?_
          refine va_get (D := D) (ci := 4) (v := .ref (A 1)) (C := RX4) (T := TX4) (N := 8) hx hb hts hw4 hown hK hP 0 cX_at0 rfl 0 (by decide) k10 (fun _ h9 => h9) rfl dX4_man_81 ?_
          refine va_get (D := D) (ci := 0) (v := .ref (A 7)) (C := RX0) (T := TX0) (N := 12) hx hb hts hw0 hown hK hP 1 cX_at1 rfl 7 (by decide) k89 (fun _ h9 => h9) rfl dX4_man_84 ?_
          refine lv_iload_n hx hb dX4_man_87 rfl (lv_at hl 1 rfl) ?_
          obtain ⟨c_8, hf⟩ := gi_e hf
          refine va_iald hx hb hK hP 7 0 cX_at7 rfl c_8 dX4_man_88 ?_
          exact hend ((n 6 (p1).toNatClampNeg), q) H locs _ _ hf hP hS dX4_man_89
        · replace hf := if_f c_7 hf
          by_cases c_9 : p2 = 3
          · replace hf := if_t c_9 hf
            refine lv_tableIn (off := 72) (tgt := 90) hx hb dX4_man_18 (by rw [c_9]; decide +kernel) (by rw [c_9]; decide +kernel) (by rw [c_9]; decide +kernel) (by decide) ?_
            refine lv_aload_n hx hb dX4_man_90 rfl (lv_at hl 0 rfl) ?_
            refine va_get (D := D) (ci := 4) (v := .ref (A 1)) (C := RX4) (T := TX4) (N := 8) hx hb hts hw4 hown hK hP 0 cX_at0 rfl 0 (by decide) k10 (fun _ h9 => h9) rfl dX4_man_91 ?_
            refine va_get (D := D) (ci := 0) (v := .ref (A 8)) (C := RX0) (T := TX0) (N := 12) hx hb hts hw0 hown hK hP 1 cX_at1 rfl 8 (by decide) k86 (fun _ h9 => h9) rfl dX4_man_94 ?_
            refine lv_iload_n hx hb dX4_man_97 rfl (lv_at hl 1 rfl) ?_
            obtain ⟨c_10, hf⟩ := gi_e hf
            refine va_iald hx hb hK hP 8 0 cX_at8 rfl c_10 dX4_man_98 ?_
            exact hend ((n 7 (p1).toNatClampNeg), q) H locs _ _ hf hP hS dX4_man_99
          · replace hf := if_f c_9 hf
            by_cases c_11 : p2 = 4
            · replace hf := if_t c_11 hf
              refine lv_tableIn (off := 82) (tgt := 100) hx hb dX4_man_18 (by rw [c_11]; decide +kernel) (by rw [c_11]; decide +kernel) (by rw [c_11]; decide +kernel) (by decide) ?_
              refine lv_aload_n hx hb dX4_man_100 rfl (lv_at hl 0 rfl) ?_
              refine va_get (D := D) (ci := 4) (v := .ref (A 1)) (C := RX4) (T := TX4) (N := 8) hx hb hts hw4 hown hK hP 0 cX_at0 rfl 0 (by decide) k10 (fun _ h9 => h9) rfl dX4_man_101 ?_
              refine lv_iload_n hx hb dX4_man_104 rfl (lv_at hl 1 rfl) ?_
              obtain ⟨a_12, ha_12, hf⟩ := bd_e hf
              refine Ct.callV (As := [.int p1]) (rest := []) (st1 := [.int a_12]) (c_X0_worth l D cI (fun j => A (1 + j)) n p1 a_12 ha_12) hx hb hml hown hts (cwV 1 hts gX4_man_X0_worth rfl rfl rfl hd_X0_worth ⟨Nat.le_of_ble_eq_true rfl, Nat.le_of_ble_eq_true rfl⟩) (va_recv hK hP (ci := 0) (q0 := 1) rfl cX_at1) ln_X_H_n hA hK hP hD hS rfl hl.1 rfl rfl (Nat.le_of_ble_eq_true rfl) dX4_man_105 (fun H locs hP hD hS => ?_)
              exact hend (a_12, q) H locs _ _ hf hP hS dX4_man_108
            · replace hf := if_f c_11 hf
              by_cases c_13 : p2 = 5
              · replace hf := if_t c_13 hf
                refine lv_tableIn (off := 91) (tgt := 109) hx hb dX4_man_18 (by rw [c_13]; decide +kernel) (by rw [c_13]; decide +kernel) (by rw [c_13]; decide +kernel) (by decide) ?_
                refine lv_aload_n hx hb dX4_man_109 rfl (lv_at hl 0 rfl) ?_
                refine va_get (D := D) (ci := 4) (v := .ref (A 1)) (C := RX4) (T := TX4) (N := 8) hx hb hts hw4 hown hK hP 0 cX_at0 rfl 0 (by decide) k10 (fun _ h9 => h9) rfl dX4_man_110 ?_
                refine lv_iload_n hx hb dX4_man_113 rfl (lv_at hl 1 rfl) ?_
                obtain ⟨a_14, ha_14, hf⟩ := bd_e hf
                refine Ct.callV (As := [.int p1]) (rest := []) (st1 := [.int a_14]) (c_X0_carried l D cI (fun j => A (1 + j)) n p1 a_14 ha_14) hx hb hml hown hts (cwV 1 hts gX4_man_X0_carried rfl rfl rfl hd_X0_carried ⟨Nat.le_of_ble_eq_true rfl, Nat.le_of_ble_eq_true rfl⟩) (va_recv hK hP (ci := 0) (q0 := 1) rfl cX_at1) ln_X_H_n hA hK hP hD hS rfl hl.1 rfl rfl (Nat.le_of_ble_eq_true rfl) dX4_man_114 (fun H locs hP hD hS => ?_)
                exact hend (a_14, q) H locs _ _ hf hP hS dX4_man_117
              · replace hf := if_f c_13 hf
                by_cases c_15 : p2 = 6
                · replace hf := if_t c_15 hf
                  refine lv_tableIn (off := 100) (tgt := 118) hx hb dX4_man_18 (by rw [c_15]; decide +kernel) (by rw [c_15]; decide +kernel) (by rw [c_15]; decide +kernel) (by decide) ?_
                  refine lv_aload_n hx hb dX4_man_118 rfl (lv_at hl 0 rfl) ?_
                  refine va_get (D := D) (ci := 4) (v := .ref (A 1)) (C := RX4) (T := TX4) (N := 8) hx hb hts hw4 hown hK hP 0 cX_at0 rfl 0 (by decide) k10 (fun _ h9 => h9) rfl dX4_man_119 ?_
                  refine lv_iload_n hx hb dX4_man_122 rfl (lv_at hl 1 rfl) ?_
                  obtain ⟨a_16, ha_16, hf⟩ := bd_e hf
                  refine Ct.callV (As := [.int p1]) (rest := []) (st1 := [.int a_16]) (c_X0_canTell l D cI (fun j => A (1 + j)) n p1 a_16 ha_16) hx hb hml hown hts (cwV 1 hts gX4_man_X0_canTell rfl rfl rfl hd_X0_canTell ⟨Nat.le_of_ble_eq_true rfl, Nat.le_of_ble_eq_true rfl⟩) (va_recv hK hP (ci := 0) (q0 := 1) rfl cX_at1) ln_X_H_n hA hK hP hD hS rfl hl.1 rfl rfl (Nat.le_of_ble_eq_true rfl) dX4_man_123 (fun H locs hP hD hS => ?_)
                  refine lv_if_eq (tgt := 133) hx hb dX4_man_126 (by decide) (fun c_17 => ?_) (fun c_17 => ?_)
                  · replace hf := if_t c_17 hf
                    refine lv_iconst (v := 0) hx hb dX4_man_133 (by decide) ?_
                    exact hend ((0 : Int32), q) H locs _ _ hf hP hS dX4_man_134
                  · replace hf := if_f c_17 hf
                    refine lv_iconst (v := 1) hx hb dX4_man_129 (by decide) ?_
                    refine lv_goto (tgt := 134) hx hb dX4_man_130 (by decide) ?_
                    exact hend ((1 : Int32), q) H locs _ _ hf hP hS dX4_man_134
                · replace hf := if_f c_15 hf
                  have ht : (p2).toInt < 0 ∨ 6 < (p2).toInt := by
                    have t0 := lv_neT (a := 0) c_3 (by decide +kernel)
                    have t1 := lv_neT (a := 1) c_5 (by decide +kernel)
                    have t2 := lv_neT (a := 2) c_7 (by decide +kernel)
                    have t3 := lv_neT (a := 3) c_9 (by decide +kernel)
                    have t4 := lv_neT (a := 4) c_11 (by decide +kernel)
                    have t5 := lv_neT (a := 5) c_13 (by decide +kernel)
                    have t6 := lv_neT (a := 6) c_15 (by decide +kernel)
                    omega
                  refine lv_tableOut (tgt := 135) hx hb dX4_man_18 ht (by decide) ?_
                  refine lv_aload_n hx hb dX4_man_135 rfl (lv_at hl 0 rfl) ?_
                  refine lv_bipush (v := -2) hx hb dX4_man_136 (by decide +kernel) ?_
                  obtain ⟨a_18, ha_18, hf⟩ := bd_e hf
                  refine Ct.callV (As := [.int (-2 : Int32)]) (rest := []) (st1 := [.int a_18.1]) (c_X4_refused l D cI A n t k g w z q (-2 : Int32) a_18 ha_18) hx hb hml hown hts (cwV 1 hts gX4_man_X4_refused rfl rfl rfl hd_X4_refused ⟨Nat.le_of_ble_eq_true rfl, Nat.le_of_ble_eq_true rfl⟩) (va_recv hK hP (ci := 4) (q0 := 0) rfl cX_at0) (Ln.id rfl) hA hK hP hD hS rfl hl.1 rfl rfl (Nat.le_of_ble_eq_true rfl) dX4_man_138 (fun H locs hP hD hS => ?_)
                  replace hP : va_P D vwCl (cX cI A n t k g w z a_18.2) H := hP
                  replace hD : va_D AA (cX cI A n t k g w z a_18.2) := hD
                  exact hend (a_18.1, a_18.2) H locs _ _ hf hP hS dX4_man_141
  · replace hf := if_t c_2 hf
    refine lv_aload_n hx hb dX4_man_11 rfl (lv_at hl 0 rfl) ?_
    refine lv_iconst (v := -1) hx hb dX4_man_12 (by decide) ?_
    obtain ⟨a_19, ha_19, hf⟩ := bd_e hf
    refine Ct.callV (As := [.int (-1 : Int32)]) (rest := []) (st1 := [.int a_19.1]) (c_X4_refused l D cI A n t k g w z q (-1 : Int32) a_19 ha_19) hx hb hml hown hts (cwV 1 hts gX4_man_X4_refused rfl rfl rfl hd_X4_refused ⟨Nat.le_of_ble_eq_true rfl, Nat.le_of_ble_eq_true rfl⟩) (va_recv hK hP (ci := 4) (q0 := 0) rfl cX_at0) (Ln.id rfl) hA hK hP hD hS rfl hl.1 rfl rfl (Nat.le_of_ble_eq_true rfl) dX4_man_13 (fun H locs hP hD hS => ?_)
    replace hP : va_P D vwCl (cX cI A n t k g w z a_19.2) H := hP
    replace hD : va_D AA (cX cI A n t k g w z a_19.2) := hD
    exact hend (a_19.1, a_19.2) H locs _ _ hf hP hS dX4_man_16

def f_X4_shipThen (n : St) (t : St) (k : St) (g : St) (w : St) (z : St) (q : St) (p1 : Int32) (p2 : Int32) (p3 : Int32) : Option (Int32 × St × St) := (bd (f_X0_hasShip n p1) fun a_1 => (if a_1 = 0 then (bd (f_X4_refused n t k g w z q (-1 : Int32)) fun a_20 => (some (a_20.1, t, a_20.2))) else (if 0 ≤ p2 then (if p2 ≤ (60 : Int32) then (if p3 = 0 then (bd (f_X0_copyFrom t n) fun a_6 => (bd (f_X0_passTides a_6 p2) fun a_7 => (if p3 = 0 then (gi p1 5 (some ((a_7 3 (p1).toNatClampNeg), a_7, q))) else (bd (f_X0_holds a_7 p1) fun a_9 => (some (a_9, a_7, q)))))) else (if p3 = (1 : Int32) then (bd (f_X0_copyFrom t n) fun a_12 => (bd (f_X0_passTides a_12 p2) fun a_13 => (if p3 = 0 then (gi p1 5 (some ((a_13 3 (p1).toNatClampNeg), a_13, q))) else (bd (f_X0_holds a_13 p1) fun a_15 => (some (a_15, a_13, q)))))) else (bd (f_X4_refused n t k g w z q (-2 : Int32)) fun a_17 => (some (a_17.1, t, a_17.2))))) else (bd (f_X4_refused n t k g w z q (-6 : Int32)) fun a_18 => (some (a_18.1, t, a_18.2)))) else (bd (f_X4_refused n t k g w z q (-4 : Int32)) fun a_19 => (some (a_19.1, t, a_19.2))))))
def rm_X4_shipThen : Room := { frames := 3, cells := 0, slots := 0, locals := 64 }
theorem hd_X4_shipThen : yX4_shipThen.cls = RX4 ∧ yX4_shipThen.cls ≠ "java/lang/invoke/MethodHandle" ∧ yX4_shipThen.cls ≠ "java/lang/invoke/VarHandle" ∧ (parseMethodDescriptor yX4_shipThen.desc).map (fun d => d.parameters.length) = some 3 := by decide +kernel
set_option maxRecDepth 100000 in
set_option maxHeartbeats 4000000 in
theorem c_X4_shipThen (l : Launch) (D : va_G) (cI : ClassId) (A : Nat → Nat) (n : St) (t : St) (k : St) (g : St) (w : St) (z : St) (q : St) (p1 : Int32) (p2 : Int32) (p3 : Int32) (r : Int32 × St × St) (hf : f_X4_shipThen n t k g w z q p1 p2 p3 = some r) : Ct l yX4_shipThen wsX4_shipThen rm_X4_shipThen D cI (cX cI A n t k g w z q) (cX cI A n r.2.1 k g w z r.2.2) [.ref (A 0), .int p1, .int p2, .int p3] (some (.int r.1)) := by
  unfold f_X4_shipThen at hf
  refine Ct.ofI (cc := cX4_shipThen) (maxL := 4) (by decide +kernel) rfl (Nat.le_of_ble_eq_true rfl) ?_
  intro p e s m args below meth c AA Q H locs ls hx hb hml hown hts hA hK hP hD hS hl hend0
  have hend : ∀ (r1 : Int32 × St × St) (H : Heap) (locs : List Loc) (pc : Nat) (ls : Array Slot), some r1 = some r → va_P D vwCl (cX cI A n r1.2.1 k g w z r1.2.2) H → va_S AA s.heap H locs → decode cX4_shipThen pc = .ok (.ireturn, 1) → W p l e rm_X4_shipThen s m args below meth c H locs 0 0 Q (F0 m pc ls [.int r1.1]) := by
    intro r1 H locs pc ls e1 hP hS hd; cases e1; exact hend0 H locs pc ls hP hS hd
  clear hend0
  have hw0 : ∀ w ∈ wsX00, w ∈ wsX4_shipThen := by decide +kernel
  have hw4 : ∀ w ∈ wsX40, w ∈ wsX4_shipThen := by decide +kernel
  have k10 := hts (.fieldLink RX4 10 "AnchorsForConfession" "now" "LAnchorsForConfession$Harbour;") (by decide +kernel)
  have k16 := hts (.fieldLink RX4 16 "AnchorsForConfession" "thought" "LAnchorsForConfession$Harbour;") (by decide +kernel)
  have k115 := hts (.fieldLink RX4 115 "AnchorsForConfession$Harbour" "outFor" "[I") (by decide +kernel)
  replace hl : lv_has ls 4 [(0, .ref (A 0)), (1, .int p1), (2, .int p2), (3, .int p3)] := hl
  refine lv_aload_n hx hb dX4_shipThen_0 rfl (lv_at hl 0 rfl) ?_
  refine va_get (D := D) (ci := 4) (v := .ref (A 1)) (C := RX4) (T := TX4) (N := 8) hx hb hts hw4 hown hK hP 0 cX_at0 rfl 0 (by decide) k10 (fun _ h9 => h9) rfl dX4_shipThen_1 ?_
  refine lv_iload_n hx hb dX4_shipThen_4 rfl (lv_at hl 1 rfl) ?_
  obtain ⟨a_1, ha_1, hf⟩ := bd_e hf
  refine Ct.callV (As := [.int p1]) (rest := []) (st1 := [.int a_1]) (c_X0_hasShip l D cI (fun j => A (1 + j)) n p1 a_1 ha_1) hx hb hml hown hts (cwV 1 hts gX4_shipThen_X0_hasShip rfl rfl rfl hd_X0_hasShip ⟨Nat.le_of_ble_eq_true rfl, Nat.le_of_ble_eq_true rfl⟩) (va_recv hK hP (ci := 0) (q0 := 1) rfl cX_at1) ln_X_H_n hA hK hP hD hS rfl hl.1 rfl rfl (Nat.le_of_ble_eq_true rfl) dX4_shipThen_5 (fun H locs hP hD hS => ?_)
  refine lv_if_ne (tgt := 17) hx hb dX4_shipThen_8 (by decide) (fun c_2 => ?_) (fun c_2 => ?_)
  · replace hf := if_f c_2 hf
    refine lv_iload_n hx hb dX4_shipThen_17 rfl (lv_at hl 2 rfl) ?_
    refine lv_if_ge (tgt := 28) hx hb dX4_shipThen_18 (by decide) (fun c_3 => ?_) (fun c_3 => ?_)
    · replace hf := if_t c_3 hf
      refine lv_iload_n hx hb dX4_shipThen_28 rfl (lv_at hl 2 rfl) ?_
      refine lv_bipush (v := 60) hx hb dX4_shipThen_29 (by decide +kernel) ?_
      refine lv_icmp_le (tgt := 41) hx hb dX4_shipThen_31 (by decide) (fun c_4 => ?_) (fun c_4 => ?_)
      · replace hf := if_t c_4 hf
        refine lv_iload_n hx hb dX4_shipThen_41 rfl (lv_at hl 3 rfl) ?_
        refine lv_if_eq (tgt := 57) hx hb dX4_shipThen_42 (by decide) (fun c_5 => ?_) (fun c_5 => ?_)
        · replace hf := if_t c_5 hf
          refine lv_aload_n hx hb dX4_shipThen_57 rfl (lv_at hl 0 rfl) ?_
          refine va_get (D := D) (ci := 4) (v := .ref (A 10)) (C := RX4) (T := TX4) (N := 8) hx hb hts hw4 hown hK hP 0 cX_at0 rfl 1 (by decide) k16 (fun _ h9 => h9) rfl dX4_shipThen_58 ?_
          refine lv_aload_n hx hb dX4_shipThen_61 rfl (lv_at hl 0 rfl) ?_
          refine va_get (D := D) (ci := 4) (v := .ref (A 1)) (C := RX4) (T := TX4) (N := 8) hx hb hts hw4 hown hK hP 0 cX_at0 rfl 0 (by decide) k10 (fun _ h9 => h9) rfl dX4_shipThen_62 ?_
          obtain ⟨a_6, ha_6, hf⟩ := bd_e hf
          refine Ct.callV (As := [.ref (A 1)]) (rest := []) (st1 := []) (c_X0_copyFrom l D cI (fun j => A (10 + j)) (fun j => A (1 + j)) t n a_6 ha_6) hx hb hml hown hts (cwV 1 hts gX4_shipThen_X0_copyFrom rfl rfl rfl hd_X0_copyFrom ⟨Nat.le_of_ble_eq_true rfl, Nat.le_of_ble_eq_true rfl⟩) (va_recv hK hP (ci := 0) (q0 := 10) rfl cX_at10) ln_X_HH_tn hA hK hP hD hS rfl hl.1 rfl rfl (Nat.le_of_ble_eq_true rfl) dX4_shipThen_65 (fun H locs hP hD hS => ?_)
          replace hP : va_P D vwCl (cX cI A n a_6 k g w z q) H := hP
          replace hD : va_D AA (cX cI A n a_6 k g w z q) := hD
          refine lv_aload_n hx hb dX4_shipThen_68 rfl (lv_at hl 0 rfl) ?_
          refine va_get (D := D) (ci := 4) (v := .ref (A 10)) (C := RX4) (T := TX4) (N := 8) hx hb hts hw4 hown hK hP 0 cX_at0 rfl 1 (by decide) k16 (fun _ h9 => h9) rfl dX4_shipThen_69 ?_
          refine lv_iload_n hx hb dX4_shipThen_72 rfl (lv_at hl 2 rfl) ?_
          obtain ⟨a_7, ha_7, hf⟩ := bd_e hf
          refine Ct.callV (As := [.int p2]) (rest := []) (st1 := []) (c_X0_passTides l D cI (fun j => A (10 + j)) a_6 p2 a_7 ha_7) hx hb hml hown hts (cwV 1 hts gX4_shipThen_X0_passTides rfl rfl rfl hd_X0_passTides ⟨Nat.le_of_ble_eq_true rfl, Nat.le_of_ble_eq_true rfl⟩) (va_recv hK hP (ci := 0) (q0 := 10) rfl cX_at10) ln_X_H_t hA hK hP hD hS rfl hl.1 rfl rfl (Nat.le_of_ble_eq_true rfl) dX4_shipThen_73 (fun H locs hP hD hS => ?_)
          replace hP : va_P D vwCl (cX cI A n a_7 k g w z q) H := hP
          replace hD : va_D AA (cX cI A n a_7 k g w z q) := hD
          refine lv_iload_n hx hb dX4_shipThen_76 rfl (lv_at hl 3 rfl) ?_
          refine lv_if_ne (tgt := 92) hx hb dX4_shipThen_77 (by decide) (fun c_8 => ?_) (fun c_8 => ?_)
          · replace hf := if_f c_8 hf
            refine lv_aload_n hx hb dX4_shipThen_92 rfl (lv_at hl 0 rfl) ?_
            refine va_get (D := D) (ci := 4) (v := .ref (A 10)) (C := RX4) (T := TX4) (N := 8) hx hb hts hw4 hown hK hP 0 cX_at0 rfl 1 (by decide) k16 (fun _ h9 => h9) rfl dX4_shipThen_93 ?_
            refine lv_iload_n hx hb dX4_shipThen_96 rfl (lv_at hl 1 rfl) ?_
            obtain ⟨a_9, ha_9, hf⟩ := bd_e hf
            refine Ct.callV (As := [.int p1]) (rest := []) (st1 := [.int a_9]) (c_X0_holds l D cI (fun j => A (10 + j)) a_7 p1 a_9 ha_9) hx hb hml hown hts (cwV 1 hts gX4_shipThen_X0_holds rfl rfl rfl hd_X0_holds ⟨Nat.le_of_ble_eq_true rfl, Nat.le_of_ble_eq_true rfl⟩) (va_recv hK hP (ci := 0) (q0 := 10) rfl cX_at10) ln_X_H_t hA hK hP hD hS rfl hl.1 rfl rfl (Nat.le_of_ble_eq_true rfl) dX4_shipThen_97 (fun H locs hP hD hS => ?_)
            exact hend (a_9, a_7, q) H locs _ _ hf hP hS dX4_shipThen_100
          · replace hf := if_t c_8 hf
            refine lv_aload_n hx hb dX4_shipThen_80 rfl (lv_at hl 0 rfl) ?_
            refine va_get (D := D) (ci := 4) (v := .ref (A 10)) (C := RX4) (T := TX4) (N := 8) hx hb hts hw4 hown hK hP 0 cX_at0 rfl 1 (by decide) k16 (fun _ h9 => h9) rfl dX4_shipThen_81 ?_
            refine va_get (D := D) (ci := 0) (v := .ref (A 13)) (C := RX0) (T := TX0) (N := 12) hx hb hts hw0 hown hK hP 10 cX_at10 rfl 3 (by decide) k115 (fun _ h9 => h9) rfl dX4_shipThen_84 ?_
            refine lv_iload_n hx hb dX4_shipThen_87 rfl (lv_at hl 1 rfl) ?_
            obtain ⟨c_10, hf⟩ := gi_e hf
            refine va_iald hx hb hK hP 13 0 cX_at13 rfl c_10 dX4_shipThen_88 ?_
            refine lv_goto (tgt := 100) hx hb dX4_shipThen_89 (by decide) ?_
            exact hend ((a_7 3 (p1).toNatClampNeg), a_7, q) H locs _ _ hf hP hS dX4_shipThen_100
        · replace hf := if_f c_5 hf
          refine lv_iload_n hx hb dX4_shipThen_45 rfl (lv_at hl 3 rfl) ?_
          refine lv_iconst (v := 1) hx hb dX4_shipThen_46 (by decide) ?_
          refine lv_icmp_eq (tgt := 57) hx hb dX4_shipThen_47 (by decide) (fun c_11 => ?_) (fun c_11 => ?_)
          · replace hf := if_t c_11 hf
            refine lv_aload_n hx hb dX4_shipThen_57 rfl (lv_at hl 0 rfl) ?_
            refine va_get (D := D) (ci := 4) (v := .ref (A 10)) (C := RX4) (T := TX4) (N := 8) hx hb hts hw4 hown hK hP 0 cX_at0 rfl 1 (by decide) k16 (fun _ h9 => h9) rfl dX4_shipThen_58 ?_
            refine lv_aload_n hx hb dX4_shipThen_61 rfl (lv_at hl 0 rfl) ?_
            refine va_get (D := D) (ci := 4) (v := .ref (A 1)) (C := RX4) (T := TX4) (N := 8) hx hb hts hw4 hown hK hP 0 cX_at0 rfl 0 (by decide) k10 (fun _ h9 => h9) rfl dX4_shipThen_62 ?_
            obtain ⟨a_12, ha_12, hf⟩ := bd_e hf
            refine Ct.callV (As := [.ref (A 1)]) (rest := []) (st1 := []) (c_X0_copyFrom l D cI (fun j => A (10 + j)) (fun j => A (1 + j)) t n a_12 ha_12) hx hb hml hown hts (cwV 1 hts gX4_shipThen_X0_copyFrom rfl rfl rfl hd_X0_copyFrom ⟨Nat.le_of_ble_eq_true rfl, Nat.le_of_ble_eq_true rfl⟩) (va_recv hK hP (ci := 0) (q0 := 10) rfl cX_at10) ln_X_HH_tn hA hK hP hD hS rfl hl.1 rfl rfl (Nat.le_of_ble_eq_true rfl) dX4_shipThen_65 (fun H locs hP hD hS => ?_)
            replace hP : va_P D vwCl (cX cI A n a_12 k g w z q) H := hP
            replace hD : va_D AA (cX cI A n a_12 k g w z q) := hD
            refine lv_aload_n hx hb dX4_shipThen_68 rfl (lv_at hl 0 rfl) ?_
            refine va_get (D := D) (ci := 4) (v := .ref (A 10)) (C := RX4) (T := TX4) (N := 8) hx hb hts hw4 hown hK hP 0 cX_at0 rfl 1 (by decide) k16 (fun _ h9 => h9) rfl dX4_shipThen_69 ?_
            refine lv_iload_n hx hb dX4_shipThen_72 rfl (lv_at hl 2 rfl) ?_
            obtain ⟨a_13, ha_13, hf⟩ := bd_e hf
            refine Ct.callV (As := [.int p2]) (rest := []) (st1 := []) (c_X0_passTides l D cI (fun j => A (10 + j)) a_12 p2 a_13 ha_13) hx hb hml hown hts (cwV 1 hts gX4_shipThen_X0_passTides rfl rfl rfl hd_X0_passTides ⟨Nat.le_of_ble_eq_true rfl, Nat.le_of_ble_eq_true rfl⟩) (va_recv hK hP (ci := 0) (q0 := 10) rfl cX_at10) ln_X_H_t hA hK hP hD hS rfl hl.1 rfl rfl (Nat.le_of_ble_eq_true rfl) dX4_shipThen_73 (fun H locs hP hD hS => ?_)
            replace hP : va_P D vwCl (cX cI A n a_13 k g w z q) H := hP
            replace hD : va_D AA (cX cI A n a_13 k g w z q) := hD
            refine lv_iload_n hx hb dX4_shipThen_76 rfl (lv_at hl 3 rfl) ?_
            refine lv_if_ne (tgt := 92) hx hb dX4_shipThen_77 (by decide) (fun c_14 => ?_) (fun c_14 => ?_)
            · replace hf := if_f c_14 hf
              refine lv_aload_n hx hb dX4_shipThen_92 rfl (lv_at hl 0 rfl) ?_
              refine va_get (D := D) (ci := 4) (v := .ref (A 10)) (C := RX4) (T := TX4) (N := 8) hx hb hts hw4 hown hK hP 0 cX_at0 rfl 1 (by decide) k16 (fun _ h9 => h9) rfl dX4_shipThen_93 ?_
              refine lv_iload_n hx hb dX4_shipThen_96 rfl (lv_at hl 1 rfl) ?_
              obtain ⟨a_15, ha_15, hf⟩ := bd_e hf
              refine Ct.callV (As := [.int p1]) (rest := []) (st1 := [.int a_15]) (c_X0_holds l D cI (fun j => A (10 + j)) a_13 p1 a_15 ha_15) hx hb hml hown hts (cwV 1 hts gX4_shipThen_X0_holds rfl rfl rfl hd_X0_holds ⟨Nat.le_of_ble_eq_true rfl, Nat.le_of_ble_eq_true rfl⟩) (va_recv hK hP (ci := 0) (q0 := 10) rfl cX_at10) ln_X_H_t hA hK hP hD hS rfl hl.1 rfl rfl (Nat.le_of_ble_eq_true rfl) dX4_shipThen_97 (fun H locs hP hD hS => ?_)
              exact hend (a_15, a_13, q) H locs _ _ hf hP hS dX4_shipThen_100
            · replace hf := if_t c_14 hf
              refine lv_aload_n hx hb dX4_shipThen_80 rfl (lv_at hl 0 rfl) ?_
              refine va_get (D := D) (ci := 4) (v := .ref (A 10)) (C := RX4) (T := TX4) (N := 8) hx hb hts hw4 hown hK hP 0 cX_at0 rfl 1 (by decide) k16 (fun _ h9 => h9) rfl dX4_shipThen_81 ?_
              refine va_get (D := D) (ci := 0) (v := .ref (A 13)) (C := RX0) (T := TX0) (N := 12) hx hb hts hw0 hown hK hP 10 cX_at10 rfl 3 (by decide) k115 (fun _ h9 => h9) rfl dX4_shipThen_84 ?_
              refine lv_iload_n hx hb dX4_shipThen_87 rfl (lv_at hl 1 rfl) ?_
              obtain ⟨c_16, hf⟩ := gi_e hf
              refine va_iald hx hb hK hP 13 0 cX_at13 rfl c_16 dX4_shipThen_88 ?_
              refine lv_goto (tgt := 100) hx hb dX4_shipThen_89 (by decide) ?_
              exact hend ((a_13 3 (p1).toNatClampNeg), a_13, q) H locs _ _ hf hP hS dX4_shipThen_100
          · replace hf := if_f c_11 hf
            refine lv_aload_n hx hb dX4_shipThen_50 rfl (lv_at hl 0 rfl) ?_
            refine lv_bipush (v := -2) hx hb dX4_shipThen_51 (by decide +kernel) ?_
            obtain ⟨a_17, ha_17, hf⟩ := bd_e hf
            refine Ct.callV (As := [.int (-2 : Int32)]) (rest := []) (st1 := [.int a_17.1]) (c_X4_refused l D cI A n t k g w z q (-2 : Int32) a_17 ha_17) hx hb hml hown hts (cwV 1 hts gX4_shipThen_X4_refused rfl rfl rfl hd_X4_refused ⟨Nat.le_of_ble_eq_true rfl, Nat.le_of_ble_eq_true rfl⟩) (va_recv hK hP (ci := 4) (q0 := 0) rfl cX_at0) (Ln.id rfl) hA hK hP hD hS rfl hl.1 rfl rfl (Nat.le_of_ble_eq_true rfl) dX4_shipThen_53 (fun H locs hP hD hS => ?_)
            replace hP : va_P D vwCl (cX cI A n t k g w z a_17.2) H := hP
            replace hD : va_D AA (cX cI A n t k g w z a_17.2) := hD
            exact hend (a_17.1, t, a_17.2) H locs _ _ hf hP hS dX4_shipThen_56
      · replace hf := if_f c_4 hf
        refine lv_aload_n hx hb dX4_shipThen_34 rfl (lv_at hl 0 rfl) ?_
        refine lv_bipush (v := -6) hx hb dX4_shipThen_35 (by decide +kernel) ?_
        obtain ⟨a_18, ha_18, hf⟩ := bd_e hf
        refine Ct.callV (As := [.int (-6 : Int32)]) (rest := []) (st1 := [.int a_18.1]) (c_X4_refused l D cI A n t k g w z q (-6 : Int32) a_18 ha_18) hx hb hml hown hts (cwV 1 hts gX4_shipThen_X4_refused rfl rfl rfl hd_X4_refused ⟨Nat.le_of_ble_eq_true rfl, Nat.le_of_ble_eq_true rfl⟩) (va_recv hK hP (ci := 4) (q0 := 0) rfl cX_at0) (Ln.id rfl) hA hK hP hD hS rfl hl.1 rfl rfl (Nat.le_of_ble_eq_true rfl) dX4_shipThen_37 (fun H locs hP hD hS => ?_)
        replace hP : va_P D vwCl (cX cI A n t k g w z a_18.2) H := hP
        replace hD : va_D AA (cX cI A n t k g w z a_18.2) := hD
        exact hend (a_18.1, t, a_18.2) H locs _ _ hf hP hS dX4_shipThen_40
    · replace hf := if_f c_3 hf
      refine lv_aload_n hx hb dX4_shipThen_21 rfl (lv_at hl 0 rfl) ?_
      refine lv_bipush (v := -4) hx hb dX4_shipThen_22 (by decide +kernel) ?_
      obtain ⟨a_19, ha_19, hf⟩ := bd_e hf
      refine Ct.callV (As := [.int (-4 : Int32)]) (rest := []) (st1 := [.int a_19.1]) (c_X4_refused l D cI A n t k g w z q (-4 : Int32) a_19 ha_19) hx hb hml hown hts (cwV 1 hts gX4_shipThen_X4_refused rfl rfl rfl hd_X4_refused ⟨Nat.le_of_ble_eq_true rfl, Nat.le_of_ble_eq_true rfl⟩) (va_recv hK hP (ci := 4) (q0 := 0) rfl cX_at0) (Ln.id rfl) hA hK hP hD hS rfl hl.1 rfl rfl (Nat.le_of_ble_eq_true rfl) dX4_shipThen_24 (fun H locs hP hD hS => ?_)
      replace hP : va_P D vwCl (cX cI A n t k g w z a_19.2) H := hP
      replace hD : va_D AA (cX cI A n t k g w z a_19.2) := hD
      exact hend (a_19.1, t, a_19.2) H locs _ _ hf hP hS dX4_shipThen_27
  · replace hf := if_t c_2 hf
    refine lv_aload_n hx hb dX4_shipThen_11 rfl (lv_at hl 0 rfl) ?_
    refine lv_iconst (v := -1) hx hb dX4_shipThen_12 (by decide) ?_
    obtain ⟨a_20, ha_20, hf⟩ := bd_e hf
    refine Ct.callV (As := [.int (-1 : Int32)]) (rest := []) (st1 := [.int a_20.1]) (c_X4_refused l D cI A n t k g w z q (-1 : Int32) a_20 ha_20) hx hb hml hown hts (cwV 1 hts gX4_shipThen_X4_refused rfl rfl rfl hd_X4_refused ⟨Nat.le_of_ble_eq_true rfl, Nat.le_of_ble_eq_true rfl⟩) (va_recv hK hP (ci := 4) (q0 := 0) rfl cX_at0) (Ln.id rfl) hA hK hP hD hS rfl hl.1 rfl rfl (Nat.le_of_ble_eq_true rfl) dX4_shipThen_13 (fun H locs hP hD hS => ?_)
    replace hP : va_P D vwCl (cX cI A n t k g w z a_20.2) H := hP
    replace hD : va_D AA (cX cI A n t k g w z a_20.2) := hD
    exact hend (a_20.1, t, a_20.2) H locs _ _ hf hP hS dX4_shipThen_16

def f_X4_sinsThen (n : St) (t : St) (k : St) (g : St) (w : St) (z : St) (q : St) (p1 : Int32) (p2 : Int32) : Option (Int32 × St × St) := (bd (f_X0_hasMan n p1) fun a_1 => (if a_1 = 0 then (bd (f_X4_refused n t k g w z q (-1 : Int32)) fun a_10 => (some (a_10.1, t, a_10.2))) else (if 0 ≤ p2 then (if p2 ≤ (60 : Int32) then (bd (f_X0_copyFrom t n) fun a_5 => (bd (f_X0_passTides a_5 p2) fun a_6 => (gi p1 8 (some ((a_6 6 (p1).toNatClampNeg), a_6, q))))) else (bd (f_X4_refused n t k g w z q (-6 : Int32)) fun a_8 => (some (a_8.1, t, a_8.2)))) else (bd (f_X4_refused n t k g w z q (-4 : Int32)) fun a_9 => (some (a_9.1, t, a_9.2))))))
def rm_X4_sinsThen : Room := { frames := 3, cells := 0, slots := 0, locals := 64 }
theorem hd_X4_sinsThen : yX4_sinsThen.cls = RX4 ∧ yX4_sinsThen.cls ≠ "java/lang/invoke/MethodHandle" ∧ yX4_sinsThen.cls ≠ "java/lang/invoke/VarHandle" ∧ (parseMethodDescriptor yX4_sinsThen.desc).map (fun d => d.parameters.length) = some 2 := by decide +kernel
set_option maxRecDepth 100000 in
set_option maxHeartbeats 4000000 in
theorem c_X4_sinsThen (l : Launch) (D : va_G) (cI : ClassId) (A : Nat → Nat) (n : St) (t : St) (k : St) (g : St) (w : St) (z : St) (q : St) (p1 : Int32) (p2 : Int32) (r : Int32 × St × St) (hf : f_X4_sinsThen n t k g w z q p1 p2 = some r) : Ct l yX4_sinsThen wsX4_sinsThen rm_X4_sinsThen D cI (cX cI A n t k g w z q) (cX cI A n r.2.1 k g w z r.2.2) [.ref (A 0), .int p1, .int p2] (some (.int r.1)) := by
  unfold f_X4_sinsThen at hf
  refine Ct.ofI (cc := cX4_sinsThen) (maxL := 3) (by decide +kernel) rfl (Nat.le_of_ble_eq_true rfl) ?_
  intro p e s m args below meth c AA Q H locs ls hx hb hml hown hts hA hK hP hD hS hl hend0
  have hend : ∀ (r1 : Int32 × St × St) (H : Heap) (locs : List Loc) (pc : Nat) (ls : Array Slot), some r1 = some r → va_P D vwCl (cX cI A n r1.2.1 k g w z r1.2.2) H → va_S AA s.heap H locs → decode cX4_sinsThen pc = .ok (.ireturn, 1) → W p l e rm_X4_sinsThen s m args below meth c H locs 0 0 Q (F0 m pc ls [.int r1.1]) := by
    intro r1 H locs pc ls e1 hP hS hd; cases e1; exact hend0 H locs pc ls hP hS hd
  clear hend0
  have hw0 : ∀ w ∈ wsX00, w ∈ wsX4_sinsThen := by decide +kernel
  have hw4 : ∀ w ∈ wsX40, w ∈ wsX4_sinsThen := by decide +kernel
  have k10 := hts (.fieldLink RX4 10 "AnchorsForConfession" "now" "LAnchorsForConfession$Harbour;") (by decide +kernel)
  have k16 := hts (.fieldLink RX4 16 "AnchorsForConfession" "thought" "LAnchorsForConfession$Harbour;") (by decide +kernel)
  have k89 := hts (.fieldLink RX4 89 "AnchorsForConfession$Harbour" "sinsOf" "[I") (by decide +kernel)
  replace hl : lv_has ls 3 [(0, .ref (A 0)), (1, .int p1), (2, .int p2)] := hl
  refine lv_aload_n hx hb dX4_sinsThen_0 rfl (lv_at hl 0 rfl) ?_
  refine va_get (D := D) (ci := 4) (v := .ref (A 1)) (C := RX4) (T := TX4) (N := 8) hx hb hts hw4 hown hK hP 0 cX_at0 rfl 0 (by decide) k10 (fun _ h9 => h9) rfl dX4_sinsThen_1 ?_
  refine lv_iload_n hx hb dX4_sinsThen_4 rfl (lv_at hl 1 rfl) ?_
  obtain ⟨a_1, ha_1, hf⟩ := bd_e hf
  refine Ct.callV (As := [.int p1]) (rest := []) (st1 := [.int a_1]) (c_X0_hasMan l D cI (fun j => A (1 + j)) n p1 a_1 ha_1) hx hb hml hown hts (cwV 1 hts gX4_sinsThen_X0_hasMan rfl rfl rfl hd_X0_hasMan ⟨Nat.le_of_ble_eq_true rfl, Nat.le_of_ble_eq_true rfl⟩) (va_recv hK hP (ci := 0) (q0 := 1) rfl cX_at1) ln_X_H_n hA hK hP hD hS rfl hl.1 rfl rfl (Nat.le_of_ble_eq_true rfl) dX4_sinsThen_5 (fun H locs hP hD hS => ?_)
  refine lv_if_ne (tgt := 17) hx hb dX4_sinsThen_8 (by decide) (fun c_2 => ?_) (fun c_2 => ?_)
  · replace hf := if_f c_2 hf
    refine lv_iload_n hx hb dX4_sinsThen_17 rfl (lv_at hl 2 rfl) ?_
    refine lv_if_ge (tgt := 28) hx hb dX4_sinsThen_18 (by decide) (fun c_3 => ?_) (fun c_3 => ?_)
    · replace hf := if_t c_3 hf
      refine lv_iload_n hx hb dX4_sinsThen_28 rfl (lv_at hl 2 rfl) ?_
      refine lv_bipush (v := 60) hx hb dX4_sinsThen_29 (by decide +kernel) ?_
      refine lv_icmp_le (tgt := 41) hx hb dX4_sinsThen_31 (by decide) (fun c_4 => ?_) (fun c_4 => ?_)
      · replace hf := if_t c_4 hf
        refine lv_aload_n hx hb dX4_sinsThen_41 rfl (lv_at hl 0 rfl) ?_
        refine va_get (D := D) (ci := 4) (v := .ref (A 10)) (C := RX4) (T := TX4) (N := 8) hx hb hts hw4 hown hK hP 0 cX_at0 rfl 1 (by decide) k16 (fun _ h9 => h9) rfl dX4_sinsThen_42 ?_
        refine lv_aload_n hx hb dX4_sinsThen_45 rfl (lv_at hl 0 rfl) ?_
        refine va_get (D := D) (ci := 4) (v := .ref (A 1)) (C := RX4) (T := TX4) (N := 8) hx hb hts hw4 hown hK hP 0 cX_at0 rfl 0 (by decide) k10 (fun _ h9 => h9) rfl dX4_sinsThen_46 ?_
        obtain ⟨a_5, ha_5, hf⟩ := bd_e hf
        refine Ct.callV (As := [.ref (A 1)]) (rest := []) (st1 := []) (c_X0_copyFrom l D cI (fun j => A (10 + j)) (fun j => A (1 + j)) t n a_5 ha_5) hx hb hml hown hts (cwV 1 hts gX4_sinsThen_X0_copyFrom rfl rfl rfl hd_X0_copyFrom ⟨Nat.le_of_ble_eq_true rfl, Nat.le_of_ble_eq_true rfl⟩) (va_recv hK hP (ci := 0) (q0 := 10) rfl cX_at10) ln_X_HH_tn hA hK hP hD hS rfl hl.1 rfl rfl (Nat.le_of_ble_eq_true rfl) dX4_sinsThen_49 (fun H locs hP hD hS => ?_)
        replace hP : va_P D vwCl (cX cI A n a_5 k g w z q) H := hP
        replace hD : va_D AA (cX cI A n a_5 k g w z q) := hD
        refine lv_aload_n hx hb dX4_sinsThen_52 rfl (lv_at hl 0 rfl) ?_
        refine va_get (D := D) (ci := 4) (v := .ref (A 10)) (C := RX4) (T := TX4) (N := 8) hx hb hts hw4 hown hK hP 0 cX_at0 rfl 1 (by decide) k16 (fun _ h9 => h9) rfl dX4_sinsThen_53 ?_
        refine lv_iload_n hx hb dX4_sinsThen_56 rfl (lv_at hl 2 rfl) ?_
        obtain ⟨a_6, ha_6, hf⟩ := bd_e hf
        refine Ct.callV (As := [.int p2]) (rest := []) (st1 := []) (c_X0_passTides l D cI (fun j => A (10 + j)) a_5 p2 a_6 ha_6) hx hb hml hown hts (cwV 1 hts gX4_sinsThen_X0_passTides rfl rfl rfl hd_X0_passTides ⟨Nat.le_of_ble_eq_true rfl, Nat.le_of_ble_eq_true rfl⟩) (va_recv hK hP (ci := 0) (q0 := 10) rfl cX_at10) ln_X_H_t hA hK hP hD hS rfl hl.1 rfl rfl (Nat.le_of_ble_eq_true rfl) dX4_sinsThen_57 (fun H locs hP hD hS => ?_)
        replace hP : va_P D vwCl (cX cI A n a_6 k g w z q) H := hP
        replace hD : va_D AA (cX cI A n a_6 k g w z q) := hD
        refine lv_aload_n hx hb dX4_sinsThen_60 rfl (lv_at hl 0 rfl) ?_
        refine va_get (D := D) (ci := 4) (v := .ref (A 10)) (C := RX4) (T := TX4) (N := 8) hx hb hts hw4 hown hK hP 0 cX_at0 rfl 1 (by decide) k16 (fun _ h9 => h9) rfl dX4_sinsThen_61 ?_
        refine va_get (D := D) (ci := 0) (v := .ref (A 16)) (C := RX0) (T := TX0) (N := 12) hx hb hts hw0 hown hK hP 10 cX_at10 rfl 7 (by decide) k89 (fun _ h9 => h9) rfl dX4_sinsThen_64 ?_
        refine lv_iload_n hx hb dX4_sinsThen_67 rfl (lv_at hl 1 rfl) ?_
        obtain ⟨c_7, hf⟩ := gi_e hf
        refine va_iald hx hb hK hP 16 0 cX_at16 rfl c_7 dX4_sinsThen_68 ?_
        exact hend ((a_6 6 (p1).toNatClampNeg), a_6, q) H locs _ _ hf hP hS dX4_sinsThen_69
      · replace hf := if_f c_4 hf
        refine lv_aload_n hx hb dX4_sinsThen_34 rfl (lv_at hl 0 rfl) ?_
        refine lv_bipush (v := -6) hx hb dX4_sinsThen_35 (by decide +kernel) ?_
        obtain ⟨a_8, ha_8, hf⟩ := bd_e hf
        refine Ct.callV (As := [.int (-6 : Int32)]) (rest := []) (st1 := [.int a_8.1]) (c_X4_refused l D cI A n t k g w z q (-6 : Int32) a_8 ha_8) hx hb hml hown hts (cwV 1 hts gX4_sinsThen_X4_refused rfl rfl rfl hd_X4_refused ⟨Nat.le_of_ble_eq_true rfl, Nat.le_of_ble_eq_true rfl⟩) (va_recv hK hP (ci := 4) (q0 := 0) rfl cX_at0) (Ln.id rfl) hA hK hP hD hS rfl hl.1 rfl rfl (Nat.le_of_ble_eq_true rfl) dX4_sinsThen_37 (fun H locs hP hD hS => ?_)
        replace hP : va_P D vwCl (cX cI A n t k g w z a_8.2) H := hP
        replace hD : va_D AA (cX cI A n t k g w z a_8.2) := hD
        exact hend (a_8.1, t, a_8.2) H locs _ _ hf hP hS dX4_sinsThen_40
    · replace hf := if_f c_3 hf
      refine lv_aload_n hx hb dX4_sinsThen_21 rfl (lv_at hl 0 rfl) ?_
      refine lv_bipush (v := -4) hx hb dX4_sinsThen_22 (by decide +kernel) ?_
      obtain ⟨a_9, ha_9, hf⟩ := bd_e hf
      refine Ct.callV (As := [.int (-4 : Int32)]) (rest := []) (st1 := [.int a_9.1]) (c_X4_refused l D cI A n t k g w z q (-4 : Int32) a_9 ha_9) hx hb hml hown hts (cwV 1 hts gX4_sinsThen_X4_refused rfl rfl rfl hd_X4_refused ⟨Nat.le_of_ble_eq_true rfl, Nat.le_of_ble_eq_true rfl⟩) (va_recv hK hP (ci := 4) (q0 := 0) rfl cX_at0) (Ln.id rfl) hA hK hP hD hS rfl hl.1 rfl rfl (Nat.le_of_ble_eq_true rfl) dX4_sinsThen_24 (fun H locs hP hD hS => ?_)
      replace hP : va_P D vwCl (cX cI A n t k g w z a_9.2) H := hP
      replace hD : va_D AA (cX cI A n t k g w z a_9.2) := hD
      exact hend (a_9.1, t, a_9.2) H locs _ _ hf hP hS dX4_sinsThen_27
  · replace hf := if_t c_2 hf
    refine lv_aload_n hx hb dX4_sinsThen_11 rfl (lv_at hl 0 rfl) ?_
    refine lv_iconst (v := -1) hx hb dX4_sinsThen_12 (by decide) ?_
    obtain ⟨a_10, ha_10, hf⟩ := bd_e hf
    refine Ct.callV (As := [.int (-1 : Int32)]) (rest := []) (st1 := [.int a_10.1]) (c_X4_refused l D cI A n t k g w z q (-1 : Int32) a_10 ha_10) hx hb hml hown hts (cwV 1 hts gX4_sinsThen_X4_refused rfl rfl rfl hd_X4_refused ⟨Nat.le_of_ble_eq_true rfl, Nat.le_of_ble_eq_true rfl⟩) (va_recv hK hP (ci := 4) (q0 := 0) rfl cX_at0) (Ln.id rfl) hA hK hP hD hS rfl hl.1 rfl rfl (Nat.le_of_ble_eq_true rfl) dX4_sinsThen_13 (fun H locs hP hD hS => ?_)
    replace hP : va_P D vwCl (cX cI A n t k g w z a_10.2) H := hP
    replace hD : va_D AA (cX cI A n t k g w z a_10.2) := hD
    exact hend (a_10.1, t, a_10.2) H locs _ _ hf hP hS dX4_sinsThen_16

def f_X4_fixture (n : St) (t : St) (k : St) (g : St) (w : St) (z : St) (q : St) : Option (Int32) := (lp (fun (nx4 : (Int32 × Int32) → Option (Int32)) (q4 : Int32 × Int32) => (if (n 16 0) ≤ q4.2 then (some q4.1) else (bd (f_X0_isIn n q4.2) fun a_2 => (if a_2 = 0 then (nm (q4.2 + (1 : Int32)) fun v_4 => (nx4 (q4.1, v_4))) else (bd (f_X0_canRise n q4.2) fun a_5 => (if a_5 = 0 then (nm (q4.1 ||| ((1 : Int32) <<< (q4.2 &&& 31))) fun v_8 => (nm (q4.2 + (1 : Int32)) fun v_9 => (nx4 (v_8, v_9)))) else (nm (q4.2 + (1 : Int32)) fun v_7 => (nx4 (q4.1, v_7))))))))) 1000 ((0 : Int32), (0 : Int32)))
def rm_X4_fixture : Room := { frames := 4, cells := 0, slots := 0, locals := 88 }
theorem hd_X4_fixture : yX4_fixture.cls = RX4 ∧ yX4_fixture.cls ≠ "java/lang/invoke/MethodHandle" ∧ yX4_fixture.cls ≠ "java/lang/invoke/VarHandle" ∧ (parseMethodDescriptor yX4_fixture.desc).map (fun d => d.parameters.length) = some 0 := by decide +kernel
set_option maxRecDepth 100000 in
set_option maxHeartbeats 4000000 in
theorem c_X4_fixture (l : Launch) (D : va_G) (cI : ClassId) (A : Nat → Nat) (n : St) (t : St) (k : St) (g : St) (w : St) (z : St) (q : St) (r : Int32) (hf : f_X4_fixture n t k g w z q = some r) : Ct l yX4_fixture wsX4_fixture rm_X4_fixture D cI (cX cI A n t k g w z q) (cX cI A n t k g w z q) [.ref (A 0)] (some (.int r)) := by
  unfold f_X4_fixture at hf
  refine Ct.ofI (cc := cX4_fixture) (maxL := 3) (by decide +kernel) rfl (Nat.le_of_ble_eq_true rfl) ?_
  intro p e s m args below meth c AA Q H locs ls hx hb hml hown hts hA hK hP hD hS hl hend0
  have hend : ∀ (r1 : Int32) (H : Heap) (locs : List Loc) (pc : Nat) (ls : Array Slot), some r1 = some r → va_P D vwCl (cX cI A n t k g w z q) H → va_S AA s.heap H locs → decode cX4_fixture pc = .ok (.ireturn, 1) → W p l e rm_X4_fixture s m args below meth c H locs 0 0 Q (F0 m pc ls [.int r1]) := by
    intro r1 H locs pc ls e1 hP hS hd; cases e1; exact hend0 H locs pc ls hP hS hd
  clear hend0
  have hw0 : ∀ w ∈ wsX00, w ∈ wsX4_fixture := by decide +kernel
  have hw4 : ∀ w ∈ wsX40, w ∈ wsX4_fixture := by decide +kernel
  have k10 := hts (.fieldLink RX4 10 "AnchorsForConfession" "now" "LAnchorsForConfession$Harbour;") (by decide +kernel)
  have k136 := hts (.fieldLink RX4 136 "AnchorsForConfession$Harbour" "ships" "I") (by decide +kernel)
  replace hl : lv_has ls 3 [(0, .ref (A 0))] := hl
  refine lv_iconst (v := 0) hx hb dX4_fixture_0 (by decide) ?_
  refine lv_istore_n (lv' := [(1, .int (0 : Int32)), (0, .ref (A 0))]) hx hb dX4_fixture_1 rfl hl (by decide) rfl (fun ls hl => ?_)
  refine lv_iconst (v := 0) hx hb dX4_fixture_2 (by decide) ?_
  refine lv_istore_n (lv' := [(2, .int (0 : Int32)), (1, .int (0 : Int32)), (0, .ref (A 0))]) hx hb dX4_fixture_3 rfl hl (by decide) rfl (fun ls hl => ?_)
  refine lp_ind (P := fun (q4 : Int32 × Int32) => ∀ (H : Heap) (locs : List Loc) (ls : Array Slot), va_P D vwCl (cX cI A n t k g w z q) H → va_D AA (cX cI A n t k g w z q) → va_S AA s.heap H locs → lv_has ls 3 [(0, .ref (A 0)), (1, .int q4.1), (2, .int q4.2)] → W p l e rm_X4_fixture s m args below meth c H locs 0 0 Q (F0 m 4 ls [])) hf ?_ H locs ls hP hD hS (lv_sub hl [2, 1, 0] rfl)
  clear hf hP hD hS hl
  intro nx4 ih4 q4 hf H locs ls hP hD hS hl
  refine lv_iload_n hx hb dX4_fixture_4 rfl (lv_at hl 2 rfl) ?_
  refine lv_aload_n hx hb dX4_fixture_5 rfl (lv_at hl 0 rfl) ?_
  refine va_get (D := D) (ci := 4) (v := .ref (A 1)) (C := RX4) (T := TX4) (N := 8) hx hb hts hw4 hown hK hP 0 cX_at0 rfl 0 (by decide) k10 (fun _ h9 => h9) rfl dX4_fixture_6 ?_
  refine va_get (D := D) (ci := 0) (v := .int (n 16 0)) (C := RX0) (T := TX0) (N := 12) hx hb hts hw0 hown hK hP 1 cX_at1 rfl 0 (by decide) k136 (fun _ h9 => h9) rfl dX4_fixture_9 ?_
  refine lv_icmp_ge (tgt := 49) hx hb dX4_fixture_12 (by decide) (fun c_1 => ?_) (fun c_1 => ?_)
  · replace hf := if_t c_1 hf
    refine lv_iload_n hx hb dX4_fixture_49 rfl (lv_at hl 1 rfl) ?_
    exact hend q4.1 H locs _ _ hf hP hS dX4_fixture_50
  · replace hf := if_f c_1 hf
    refine lv_aload_n hx hb dX4_fixture_15 rfl (lv_at hl 0 rfl) ?_
    refine va_get (D := D) (ci := 4) (v := .ref (A 1)) (C := RX4) (T := TX4) (N := 8) hx hb hts hw4 hown hK hP 0 cX_at0 rfl 0 (by decide) k10 (fun _ h9 => h9) rfl dX4_fixture_16 ?_
    refine lv_iload_n hx hb dX4_fixture_19 rfl (lv_at hl 2 rfl) ?_
    obtain ⟨a_2, ha_2, hf⟩ := bd_e hf
    refine Ct.callV (As := [.int q4.2]) (rest := []) (st1 := [.int a_2]) (c_X0_isIn l D cI (fun j => A (1 + j)) n q4.2 a_2 ha_2) hx hb hml hown hts (cwV 1 hts gX4_fixture_X0_isIn rfl rfl rfl hd_X0_isIn ⟨Nat.le_of_ble_eq_true rfl, Nat.le_of_ble_eq_true rfl⟩) (va_recv hK hP (ci := 0) (q0 := 1) rfl cX_at1) ln_X_H_n hA hK hP hD hS rfl hl.1 rfl rfl (Nat.le_of_ble_eq_true rfl) dX4_fixture_20 (fun H locs hP hD hS => ?_)
    refine lv_if_eq (tgt := 43) hx hb dX4_fixture_23 (by decide) (fun c_3 => ?_) (fun c_3 => ?_)
    · replace hf := if_t c_3 hf
      obtain ⟨v_4, ev_4, hf⟩ := nm_e hf
      refine lv_iinc (v := v_4) (lv' := [(2, .int v_4), (0, .ref (A 0)), (1, .int q4.1)]) hx hb dX4_fixture_43 hl (k := 2) rfl (by rw [ev_4]; rfl) (by decide) rfl (fun ls hl => ?_)
      refine lv_goto (tgt := 4) hx hb dX4_fixture_46 (by decide) ?_
      exact ih4 (q4.1, v_4) hf H locs ls hP hD hS (lv_sub hl [1, 2, 0] rfl)
    · replace hf := if_f c_3 hf
      refine lv_aload_n hx hb dX4_fixture_26 rfl (lv_at hl 0 rfl) ?_
      refine va_get (D := D) (ci := 4) (v := .ref (A 1)) (C := RX4) (T := TX4) (N := 8) hx hb hts hw4 hown hK hP 0 cX_at0 rfl 0 (by decide) k10 (fun _ h9 => h9) rfl dX4_fixture_27 ?_
      refine lv_iload_n hx hb dX4_fixture_30 rfl (lv_at hl 2 rfl) ?_
      obtain ⟨a_5, ha_5, hf⟩ := bd_e hf
      refine Ct.callV (As := [.int q4.2]) (rest := []) (st1 := [.int a_5]) (c_X0_canRise l D cI (fun j => A (1 + j)) n q4.2 a_5 ha_5) hx hb hml hown hts (cwV 1 hts gX4_fixture_X0_canRise rfl rfl rfl hd_X0_canRise ⟨Nat.le_of_ble_eq_true rfl, Nat.le_of_ble_eq_true rfl⟩) (va_recv hK hP (ci := 0) (q0 := 1) rfl cX_at1) ln_X_H_n hA hK hP hD hS rfl hl.1 rfl rfl (Nat.le_of_ble_eq_true rfl) dX4_fixture_31 (fun H locs hP hD hS => ?_)
      refine lv_if_ne (tgt := 43) hx hb dX4_fixture_34 (by decide) (fun c_6 => ?_) (fun c_6 => ?_)
      · replace hf := if_f c_6 hf
        obtain ⟨v_7, ev_7, hf⟩ := nm_e hf
        refine lv_iinc (v := v_7) (lv' := [(2, .int v_7), (0, .ref (A 0)), (1, .int q4.1)]) hx hb dX4_fixture_43 hl (k := 2) rfl (by rw [ev_7]; rfl) (by decide) rfl (fun ls hl => ?_)
        refine lv_goto (tgt := 4) hx hb dX4_fixture_46 (by decide) ?_
        exact ih4 (q4.1, v_7) hf H locs ls hP hD hS (lv_sub hl [1, 2, 0] rfl)
      · replace hf := if_t c_6 hf
        refine lv_iload_n hx hb dX4_fixture_37 rfl (lv_at hl 1 rfl) ?_
        refine lv_iconst (v := 1) hx hb dX4_fixture_38 (by decide) ?_
        refine lv_iload_n hx hb dX4_fixture_39 rfl (lv_at hl 2 rfl) ?_
        refine lv_ishl hx hb dX4_fixture_40 ?_
        refine lv_ior hx hb dX4_fixture_41 ?_
        refine lv_topi (fun v_8 ev_8 => ?_)
        replace hf := nm_at ev_8 hf
        refine lv_istore_n (lv' := [(1, .int v_8), (0, .ref (A 0)), (2, .int q4.2)]) hx hb dX4_fixture_42 rfl hl (by decide) rfl (fun ls hl => ?_)
        obtain ⟨v_9, ev_9, hf⟩ := nm_e hf
        refine lv_iinc (v := v_9) (lv' := [(2, .int v_9), (1, .int v_8), (0, .ref (A 0))]) hx hb dX4_fixture_43 hl (k := 2) rfl (by rw [ev_9]; rfl) (by decide) rfl (fun ls hl => ?_)
        refine lv_goto (tgt := 4) hx hb dX4_fixture_46 (by decide) ?_
        exact ih4 (v_8, v_9) hf H locs ls hP hD hS (lv_sub hl [2, 1, 0] rfl)

def f_X4_fewest (n : St) (t : St) (k : St) (g : St) (w : St) (z : St) (q : St) (p1 : Int32) (p2 : Int32) : Option (Int32 × St × St) := (bd (f_X0_hasShip n p1) fun a_1 => (if a_1 = 0 then (bd (f_X4_refused n t k g w z q (-1 : Int32)) fun a_20 => (some (a_20.1, n, a_20.2))) else (if p2 = 0 then (bd (f_X0_isIn n p1) fun a_4 => (if a_4 = 0 then (bd (f_X4_refused n t k g w z q (-3 : Int32)) fun a_10 => (some (a_10.1, n, a_10.2))) else (bd (f_X0_fewestWords n p1) fun a_6 => (if p2 = 0 then (some (a_6.1, a_6.2, q)) else (if a_6.1 = (-9 : Int32) then (some (a_6.1, a_6.2, q)) else (bd (f_X0_mostAsked a_6.2) fun a_9 => (some (a_9, a_6.2, q)))))))) else (if p2 = (1 : Int32) then (bd (f_X0_isIn n p1) fun a_12 => (if a_12 = 0 then (bd (f_X4_refused n t k g w z q (-3 : Int32)) fun a_18 => (some (a_18.1, n, a_18.2))) else (bd (f_X0_fewestWords n p1) fun a_14 => (if p2 = 0 then (some (a_14.1, a_14.2, q)) else (if a_14.1 = (-9 : Int32) then (some (a_14.1, a_14.2, q)) else (bd (f_X0_mostAsked a_14.2) fun a_17 => (some (a_17, a_14.2, q)))))))) else (bd (f_X4_refused n t k g w z q (-2 : Int32)) fun a_19 => (some (a_19.1, n, a_19.2)))))))
def rm_X4_fewest : Room := { frames := 4, cells := 0, slots := 0, locals := 93 }
theorem hd_X4_fewest : yX4_fewest.cls = RX4 ∧ yX4_fewest.cls ≠ "java/lang/invoke/MethodHandle" ∧ yX4_fewest.cls ≠ "java/lang/invoke/VarHandle" ∧ (parseMethodDescriptor yX4_fewest.desc).map (fun d => d.parameters.length) = some 2 := by decide +kernel
set_option maxRecDepth 100000 in
set_option maxHeartbeats 4000000 in
theorem c_X4_fewest (l : Launch) (D : va_G) (cI : ClassId) (A : Nat → Nat) (n : St) (t : St) (k : St) (g : St) (w : St) (z : St) (q : St) (p1 : Int32) (p2 : Int32) (r : Int32 × St × St) (hf : f_X4_fewest n t k g w z q p1 p2 = some r) : Ct l yX4_fewest wsX4_fewest rm_X4_fewest D cI (cX cI A n t k g w z q) (cX cI A r.2.1 t k g w z r.2.2) [.ref (A 0), .int p1, .int p2] (some (.int r.1)) := by
  unfold f_X4_fewest at hf
  refine Ct.ofI (cc := cX4_fewest) (maxL := 4) (by decide +kernel) rfl (Nat.le_of_ble_eq_true rfl) ?_
  intro p e s m args below meth c AA Q H locs ls hx hb hml hown hts hA hK hP hD hS hl hend0
  have hend : ∀ (r1 : Int32 × St × St) (H : Heap) (locs : List Loc) (pc : Nat) (ls : Array Slot), some r1 = some r → va_P D vwCl (cX cI A r1.2.1 t k g w z r1.2.2) H → va_S AA s.heap H locs → decode cX4_fewest pc = .ok (.ireturn, 1) → W p l e rm_X4_fewest s m args below meth c H locs 0 0 Q (F0 m pc ls [.int r1.1]) := by
    intro r1 H locs pc ls e1 hP hS hd; cases e1; exact hend0 H locs pc ls hP hS hd
  clear hend0
  have hw4 : ∀ w ∈ wsX40, w ∈ wsX4_fewest := by decide +kernel
  have k10 := hts (.fieldLink RX4 10 "AnchorsForConfession" "now" "LAnchorsForConfession$Harbour;") (by decide +kernel)
  replace hl : lv_has ls 4 [(0, .ref (A 0)), (1, .int p1), (2, .int p2)] := hl
  refine lv_aload_n hx hb dX4_fewest_0 rfl (lv_at hl 0 rfl) ?_
  refine va_get (D := D) (ci := 4) (v := .ref (A 1)) (C := RX4) (T := TX4) (N := 8) hx hb hts hw4 hown hK hP 0 cX_at0 rfl 0 (by decide) k10 (fun _ h9 => h9) rfl dX4_fewest_1 ?_
  refine lv_iload_n hx hb dX4_fewest_4 rfl (lv_at hl 1 rfl) ?_
  obtain ⟨a_1, ha_1, hf⟩ := bd_e hf
  refine Ct.callV (As := [.int p1]) (rest := []) (st1 := [.int a_1]) (c_X0_hasShip l D cI (fun j => A (1 + j)) n p1 a_1 ha_1) hx hb hml hown hts (cwV 1 hts gX4_fewest_X0_hasShip rfl rfl rfl hd_X0_hasShip ⟨Nat.le_of_ble_eq_true rfl, Nat.le_of_ble_eq_true rfl⟩) (va_recv hK hP (ci := 0) (q0 := 1) rfl cX_at1) ln_X_H_n hA hK hP hD hS rfl hl.1 rfl rfl (Nat.le_of_ble_eq_true rfl) dX4_fewest_5 (fun H locs hP hD hS => ?_)
  refine lv_if_ne (tgt := 17) hx hb dX4_fewest_8 (by decide) (fun c_2 => ?_) (fun c_2 => ?_)
  · replace hf := if_f c_2 hf
    refine lv_iload_n hx hb dX4_fewest_17 rfl (lv_at hl 2 rfl) ?_
    refine lv_if_eq (tgt := 33) hx hb dX4_fewest_18 (by decide) (fun c_3 => ?_) (fun c_3 => ?_)
    · replace hf := if_t c_3 hf
      refine lv_aload_n hx hb dX4_fewest_33 rfl (lv_at hl 0 rfl) ?_
      refine va_get (D := D) (ci := 4) (v := .ref (A 1)) (C := RX4) (T := TX4) (N := 8) hx hb hts hw4 hown hK hP 0 cX_at0 rfl 0 (by decide) k10 (fun _ h9 => h9) rfl dX4_fewest_34 ?_
      refine lv_iload_n hx hb dX4_fewest_37 rfl (lv_at hl 1 rfl) ?_
      obtain ⟨a_4, ha_4, hf⟩ := bd_e hf
      refine Ct.callV (As := [.int p1]) (rest := []) (st1 := [.int a_4]) (c_X0_isIn l D cI (fun j => A (1 + j)) n p1 a_4 ha_4) hx hb hml hown hts (cwV 1 hts gX4_fewest_X0_isIn rfl rfl rfl hd_X0_isIn ⟨Nat.le_of_ble_eq_true rfl, Nat.le_of_ble_eq_true rfl⟩) (va_recv hK hP (ci := 0) (q0 := 1) rfl cX_at1) ln_X_H_n hA hK hP hD hS rfl hl.1 rfl rfl (Nat.le_of_ble_eq_true rfl) dX4_fewest_38 (fun H locs hP hD hS => ?_)
      refine lv_if_ne (tgt := 51) hx hb dX4_fewest_41 (by decide) (fun c_5 => ?_) (fun c_5 => ?_)
      · replace hf := if_f c_5 hf
        refine lv_aload_n hx hb dX4_fewest_51 rfl (lv_at hl 0 rfl) ?_
        refine va_get (D := D) (ci := 4) (v := .ref (A 1)) (C := RX4) (T := TX4) (N := 8) hx hb hts hw4 hown hK hP 0 cX_at0 rfl 0 (by decide) k10 (fun _ h9 => h9) rfl dX4_fewest_52 ?_
        refine lv_iload_n hx hb dX4_fewest_55 rfl (lv_at hl 1 rfl) ?_
        obtain ⟨a_6, ha_6, hf⟩ := bd_e hf
        refine Ct.callV (As := [.int p1]) (rest := []) (st1 := [.int a_6.1]) (c_X0_fewestWords l D cI (fun j => A (1 + j)) n p1 a_6 ha_6) hx hb hml hown hts (cwV 1 hts gX4_fewest_X0_fewestWords rfl rfl rfl hd_X0_fewestWords ⟨Nat.le_of_ble_eq_true rfl, Nat.le_of_ble_eq_true rfl⟩) (va_recv hK hP (ci := 0) (q0 := 1) rfl cX_at1) ln_X_H_n hA hK hP hD hS rfl hl.1 rfl rfl (Nat.le_of_ble_eq_true rfl) dX4_fewest_56 (fun H locs hP hD hS => ?_)
        replace hP : va_P D vwCl (cX cI A a_6.2 t k g w z q) H := hP
        replace hD : va_D AA (cX cI A a_6.2 t k g w z q) := hD
        refine lv_istore_n (lv' := [(3, .int a_6.1), (0, .ref (A 0)), (1, .int p1), (2, .int p2)]) hx hb dX4_fewest_59 rfl hl (by decide) rfl (fun ls hl => ?_)
        refine lv_iload_n hx hb dX4_fewest_60 rfl (lv_at hl 3 rfl) ?_
        refine lv_if_eq (tgt := 70) hx hb dX4_fewest_61 (by decide) (fun c_7 => ?_) (fun c_7 => ?_)
        · replace hf := if_t c_7 hf
          refine lv_iload_n hx hb dX4_fewest_70 rfl (lv_at hl 0 rfl) ?_
          refine lv_goto (tgt := 81) hx hb dX4_fewest_71 (by decide) ?_
          exact hend (a_6.1, a_6.2, q) H locs _ _ hf hP hS dX4_fewest_81
        · replace hf := if_f c_7 hf
          refine lv_iload_n hx hb dX4_fewest_64 rfl (lv_at hl 0 rfl) ?_
          refine lv_bipush (v := -9) hx hb dX4_fewest_65 (by decide +kernel) ?_
          refine lv_icmp_ne (tgt := 74) hx hb dX4_fewest_67 (by decide) (fun c_8 => ?_) (fun c_8 => ?_)
          · replace hf := if_f c_8 hf
            refine lv_aload_n hx hb dX4_fewest_74 rfl (lv_at hl 1 rfl) ?_
            refine va_get (D := D) (ci := 4) (v := .ref (A 1)) (C := RX4) (T := TX4) (N := 8) hx hb hts hw4 hown hK hP 0 cX_at0 rfl 0 (by decide) k10 (fun _ h9 => h9) rfl dX4_fewest_75 ?_
            obtain ⟨a_9, ha_9, hf⟩ := bd_e hf
            refine Ct.callV (As := []) (rest := []) (st1 := [.int a_9]) (c_X0_mostAsked l D cI (fun j => A (1 + j)) a_6.2 a_9 ha_9) hx hb hml hown hts (cwV 0 hts gX4_fewest_X0_mostAsked rfl rfl rfl hd_X0_mostAsked ⟨Nat.le_of_ble_eq_true rfl, Nat.le_of_ble_eq_true rfl⟩) (va_recv hK hP (ci := 0) (q0 := 1) rfl cX_at1) ln_X_H_n hA hK hP hD hS rfl hl.1 rfl rfl (Nat.le_of_ble_eq_true rfl) dX4_fewest_78 (fun H locs hP hD hS => ?_)
            exact hend (a_9, a_6.2, q) H locs _ _ hf hP hS dX4_fewest_81
          · replace hf := if_t c_8 hf
            refine lv_iload_n hx hb dX4_fewest_70 rfl (lv_at hl 0 rfl) ?_
            refine lv_goto (tgt := 81) hx hb dX4_fewest_71 (by decide) ?_
            exact hend (a_6.1, a_6.2, q) H locs _ _ hf hP hS dX4_fewest_81
      · replace hf := if_t c_5 hf
        refine lv_aload_n hx hb dX4_fewest_44 rfl (lv_at hl 0 rfl) ?_
        refine lv_bipush (v := -3) hx hb dX4_fewest_45 (by decide +kernel) ?_
        obtain ⟨a_10, ha_10, hf⟩ := bd_e hf
        refine Ct.callV (As := [.int (-3 : Int32)]) (rest := []) (st1 := [.int a_10.1]) (c_X4_refused l D cI A n t k g w z q (-3 : Int32) a_10 ha_10) hx hb hml hown hts (cwV 1 hts gX4_fewest_X4_refused rfl rfl rfl hd_X4_refused ⟨Nat.le_of_ble_eq_true rfl, Nat.le_of_ble_eq_true rfl⟩) (va_recv hK hP (ci := 4) (q0 := 0) rfl cX_at0) (Ln.id rfl) hA hK hP hD hS rfl hl.1 rfl rfl (Nat.le_of_ble_eq_true rfl) dX4_fewest_47 (fun H locs hP hD hS => ?_)
        replace hP : va_P D vwCl (cX cI A n t k g w z a_10.2) H := hP
        replace hD : va_D AA (cX cI A n t k g w z a_10.2) := hD
        exact hend (a_10.1, n, a_10.2) H locs _ _ hf hP hS dX4_fewest_50
    · replace hf := if_f c_3 hf
      refine lv_iload_n hx hb dX4_fewest_21 rfl (lv_at hl 2 rfl) ?_
      refine lv_iconst (v := 1) hx hb dX4_fewest_22 (by decide) ?_
      refine lv_icmp_eq (tgt := 33) hx hb dX4_fewest_23 (by decide) (fun c_11 => ?_) (fun c_11 => ?_)
      · replace hf := if_t c_11 hf
        refine lv_aload_n hx hb dX4_fewest_33 rfl (lv_at hl 0 rfl) ?_
        refine va_get (D := D) (ci := 4) (v := .ref (A 1)) (C := RX4) (T := TX4) (N := 8) hx hb hts hw4 hown hK hP 0 cX_at0 rfl 0 (by decide) k10 (fun _ h9 => h9) rfl dX4_fewest_34 ?_
        refine lv_iload_n hx hb dX4_fewest_37 rfl (lv_at hl 1 rfl) ?_
        obtain ⟨a_12, ha_12, hf⟩ := bd_e hf
        refine Ct.callV (As := [.int p1]) (rest := []) (st1 := [.int a_12]) (c_X0_isIn l D cI (fun j => A (1 + j)) n p1 a_12 ha_12) hx hb hml hown hts (cwV 1 hts gX4_fewest_X0_isIn rfl rfl rfl hd_X0_isIn ⟨Nat.le_of_ble_eq_true rfl, Nat.le_of_ble_eq_true rfl⟩) (va_recv hK hP (ci := 0) (q0 := 1) rfl cX_at1) ln_X_H_n hA hK hP hD hS rfl hl.1 rfl rfl (Nat.le_of_ble_eq_true rfl) dX4_fewest_38 (fun H locs hP hD hS => ?_)
        refine lv_if_ne (tgt := 51) hx hb dX4_fewest_41 (by decide) (fun c_13 => ?_) (fun c_13 => ?_)
        · replace hf := if_f c_13 hf
          refine lv_aload_n hx hb dX4_fewest_51 rfl (lv_at hl 0 rfl) ?_
          refine va_get (D := D) (ci := 4) (v := .ref (A 1)) (C := RX4) (T := TX4) (N := 8) hx hb hts hw4 hown hK hP 0 cX_at0 rfl 0 (by decide) k10 (fun _ h9 => h9) rfl dX4_fewest_52 ?_
          refine lv_iload_n hx hb dX4_fewest_55 rfl (lv_at hl 1 rfl) ?_
          obtain ⟨a_14, ha_14, hf⟩ := bd_e hf
          refine Ct.callV (As := [.int p1]) (rest := []) (st1 := [.int a_14.1]) (c_X0_fewestWords l D cI (fun j => A (1 + j)) n p1 a_14 ha_14) hx hb hml hown hts (cwV 1 hts gX4_fewest_X0_fewestWords rfl rfl rfl hd_X0_fewestWords ⟨Nat.le_of_ble_eq_true rfl, Nat.le_of_ble_eq_true rfl⟩) (va_recv hK hP (ci := 0) (q0 := 1) rfl cX_at1) ln_X_H_n hA hK hP hD hS rfl hl.1 rfl rfl (Nat.le_of_ble_eq_true rfl) dX4_fewest_56 (fun H locs hP hD hS => ?_)
          replace hP : va_P D vwCl (cX cI A a_14.2 t k g w z q) H := hP
          replace hD : va_D AA (cX cI A a_14.2 t k g w z q) := hD
          refine lv_istore_n (lv' := [(3, .int a_14.1), (0, .ref (A 0)), (1, .int p1), (2, .int p2)]) hx hb dX4_fewest_59 rfl hl (by decide) rfl (fun ls hl => ?_)
          refine lv_iload_n hx hb dX4_fewest_60 rfl (lv_at hl 3 rfl) ?_
          refine lv_if_eq (tgt := 70) hx hb dX4_fewest_61 (by decide) (fun c_15 => ?_) (fun c_15 => ?_)
          · replace hf := if_t c_15 hf
            refine lv_iload_n hx hb dX4_fewest_70 rfl (lv_at hl 0 rfl) ?_
            refine lv_goto (tgt := 81) hx hb dX4_fewest_71 (by decide) ?_
            exact hend (a_14.1, a_14.2, q) H locs _ _ hf hP hS dX4_fewest_81
          · replace hf := if_f c_15 hf
            refine lv_iload_n hx hb dX4_fewest_64 rfl (lv_at hl 0 rfl) ?_
            refine lv_bipush (v := -9) hx hb dX4_fewest_65 (by decide +kernel) ?_
            refine lv_icmp_ne (tgt := 74) hx hb dX4_fewest_67 (by decide) (fun c_16 => ?_) (fun c_16 => ?_)
            · replace hf := if_f c_16 hf
              refine lv_aload_n hx hb dX4_fewest_74 rfl (lv_at hl 1 rfl) ?_
              refine va_get (D := D) (ci := 4) (v := .ref (A 1)) (C := RX4) (T := TX4) (N := 8) hx hb hts hw4 hown hK hP 0 cX_at0 rfl 0 (by decide) k10 (fun _ h9 => h9) rfl dX4_fewest_75 ?_
              obtain ⟨a_17, ha_17, hf⟩ := bd_e hf
              refine Ct.callV (As := []) (rest := []) (st1 := [.int a_17]) (c_X0_mostAsked l D cI (fun j => A (1 + j)) a_14.2 a_17 ha_17) hx hb hml hown hts (cwV 0 hts gX4_fewest_X0_mostAsked rfl rfl rfl hd_X0_mostAsked ⟨Nat.le_of_ble_eq_true rfl, Nat.le_of_ble_eq_true rfl⟩) (va_recv hK hP (ci := 0) (q0 := 1) rfl cX_at1) ln_X_H_n hA hK hP hD hS rfl hl.1 rfl rfl (Nat.le_of_ble_eq_true rfl) dX4_fewest_78 (fun H locs hP hD hS => ?_)
              exact hend (a_17, a_14.2, q) H locs _ _ hf hP hS dX4_fewest_81
            · replace hf := if_t c_16 hf
              refine lv_iload_n hx hb dX4_fewest_70 rfl (lv_at hl 0 rfl) ?_
              refine lv_goto (tgt := 81) hx hb dX4_fewest_71 (by decide) ?_
              exact hend (a_14.1, a_14.2, q) H locs _ _ hf hP hS dX4_fewest_81
        · replace hf := if_t c_13 hf
          refine lv_aload_n hx hb dX4_fewest_44 rfl (lv_at hl 0 rfl) ?_
          refine lv_bipush (v := -3) hx hb dX4_fewest_45 (by decide +kernel) ?_
          obtain ⟨a_18, ha_18, hf⟩ := bd_e hf
          refine Ct.callV (As := [.int (-3 : Int32)]) (rest := []) (st1 := [.int a_18.1]) (c_X4_refused l D cI A n t k g w z q (-3 : Int32) a_18 ha_18) hx hb hml hown hts (cwV 1 hts gX4_fewest_X4_refused rfl rfl rfl hd_X4_refused ⟨Nat.le_of_ble_eq_true rfl, Nat.le_of_ble_eq_true rfl⟩) (va_recv hK hP (ci := 4) (q0 := 0) rfl cX_at0) (Ln.id rfl) hA hK hP hD hS rfl hl.1 rfl rfl (Nat.le_of_ble_eq_true rfl) dX4_fewest_47 (fun H locs hP hD hS => ?_)
          replace hP : va_P D vwCl (cX cI A n t k g w z a_18.2) H := hP
          replace hD : va_D AA (cX cI A n t k g w z a_18.2) := hD
          exact hend (a_18.1, n, a_18.2) H locs _ _ hf hP hS dX4_fewest_50
      · replace hf := if_f c_11 hf
        refine lv_aload_n hx hb dX4_fewest_26 rfl (lv_at hl 0 rfl) ?_
        refine lv_bipush (v := -2) hx hb dX4_fewest_27 (by decide +kernel) ?_
        obtain ⟨a_19, ha_19, hf⟩ := bd_e hf
        refine Ct.callV (As := [.int (-2 : Int32)]) (rest := []) (st1 := [.int a_19.1]) (c_X4_refused l D cI A n t k g w z q (-2 : Int32) a_19 ha_19) hx hb hml hown hts (cwV 1 hts gX4_fewest_X4_refused rfl rfl rfl hd_X4_refused ⟨Nat.le_of_ble_eq_true rfl, Nat.le_of_ble_eq_true rfl⟩) (va_recv hK hP (ci := 4) (q0 := 0) rfl cX_at0) (Ln.id rfl) hA hK hP hD hS rfl hl.1 rfl rfl (Nat.le_of_ble_eq_true rfl) dX4_fewest_29 (fun H locs hP hD hS => ?_)
        replace hP : va_P D vwCl (cX cI A n t k g w z a_19.2) H := hP
        replace hD : va_D AA (cX cI A n t k g w z a_19.2) := hD
        exact hend (a_19.1, n, a_19.2) H locs _ _ hf hP hS dX4_fewest_32
  · replace hf := if_t c_2 hf
    refine lv_aload_n hx hb dX4_fewest_11 rfl (lv_at hl 0 rfl) ?_
    refine lv_iconst (v := -1) hx hb dX4_fewest_12 (by decide) ?_
    obtain ⟨a_20, ha_20, hf⟩ := bd_e hf
    refine Ct.callV (As := [.int (-1 : Int32)]) (rest := []) (st1 := [.int a_20.1]) (c_X4_refused l D cI A n t k g w z q (-1 : Int32) a_20 ha_20) hx hb hml hown hts (cwV 1 hts gX4_fewest_X4_refused rfl rfl rfl hd_X4_refused ⟨Nat.le_of_ble_eq_true rfl, Nat.le_of_ble_eq_true rfl⟩) (va_recv hK hP (ci := 4) (q0 := 0) rfl cX_at0) (Ln.id rfl) hA hK hP hD hS rfl hl.1 rfl rfl (Nat.le_of_ble_eq_true rfl) dX4_fewest_13 (fun H locs hP hD hS => ?_)
    replace hP : va_P D vwCl (cX cI A n t k g w z a_20.2) H := hP
    replace hD : va_D AA (cX cI A n t k g w z a_20.2) := hD
    exact hend (a_20.1, n, a_20.2) H locs _ _ hf hP hS dX4_fewest_16

def f_X4_when (n : St) (t : St) (k : St) (g : St) (w : St) (z : St) (q : St) (p1 : Int32) (p2 : Int32) : Option (Int32 × St × St) := (bd (f_X0_hasShip n p1) fun a_1 => (if a_1 = 0 then (bd (f_X4_refused n t k g w z q (-1 : Int32)) fun a_20 => (some (a_20.1, t, a_20.2))) else (if 0 ≤ p2 then (if p2 ≤ (20 : Int32) then (bd (f_X0_copyFrom t n) fun a_5 => (lp (fun (nx54 : (Int32 × St) → Option (Int32 × St × St)) (q54 : Int32 × St) => (if (60 : Int32) < q54.1 then (some ((-9 : Int32), q54.2, q)) else (bd (f_X0_isIn q54.2 p1) fun a_7 => (if a_7 = 0 then (bd (f_X0_passTides q54.2 (1 : Int32)) fun a_9 => (nm (q54.1 + (1 : Int32)) fun v_10 => (nx54 (v_10, a_9)))) else (bd (f_X0_fewestWords q54.2 p1) fun a_11 => (if a_11.1 = (-9 : Int32) then (bd (f_X0_passTides a_11.2 (1 : Int32)) fun a_13 => (nm (q54.1 + (1 : Int32)) fun v_14 => (nx54 (v_14, a_13)))) else (if p2 < a_11.1 then (bd (f_X0_passTides a_11.2 (1 : Int32)) fun a_16 => (nm (q54.1 + (1 : Int32)) fun v_17 => (nx54 (v_17, a_16)))) else (some (q54.1, a_11.2, q))))))))) 1000 ((0 : Int32), a_5))) else (bd (f_X4_refused n t k g w z q (-6 : Int32)) fun a_18 => (some (a_18.1, t, a_18.2)))) else (bd (f_X4_refused n t k g w z q (-4 : Int32)) fun a_19 => (some (a_19.1, t, a_19.2))))))
def rm_X4_when : Room := { frames := 4, cells := 0, slots := 0, locals := 93 }
theorem hd_X4_when : yX4_when.cls = RX4 ∧ yX4_when.cls ≠ "java/lang/invoke/MethodHandle" ∧ yX4_when.cls ≠ "java/lang/invoke/VarHandle" ∧ (parseMethodDescriptor yX4_when.desc).map (fun d => d.parameters.length) = some 2 := by decide +kernel
set_option maxRecDepth 100000 in
set_option maxHeartbeats 4000000 in
theorem c_X4_when (l : Launch) (D : va_G) (cI : ClassId) (A : Nat → Nat) (n : St) (t : St) (k : St) (g : St) (w : St) (z : St) (q : St) (p1 : Int32) (p2 : Int32) (r : Int32 × St × St) (hf : f_X4_when n t k g w z q p1 p2 = some r) : Ct l yX4_when wsX4_when rm_X4_when D cI (cX cI A n t k g w z q) (cX cI A n r.2.1 k g w z r.2.2) [.ref (A 0), .int p1, .int p2] (some (.int r.1)) := by
  unfold f_X4_when at hf
  refine Ct.ofI (cc := cX4_when) (maxL := 5) (by decide +kernel) rfl (Nat.le_of_ble_eq_true rfl) ?_
  intro p e s m args below meth c AA Q H locs ls hx hb hml hown hts hA hK hP hD hS hl hend0
  have hend : ∀ (r1 : Int32 × St × St) (H : Heap) (locs : List Loc) (pc : Nat) (ls : Array Slot), some r1 = some r → va_P D vwCl (cX cI A n r1.2.1 k g w z r1.2.2) H → va_S AA s.heap H locs → decode cX4_when pc = .ok (.ireturn, 1) → W p l e rm_X4_when s m args below meth c H locs 0 0 Q (F0 m pc ls [.int r1.1]) := by
    intro r1 H locs pc ls e1 hP hS hd; cases e1; exact hend0 H locs pc ls hP hS hd
  clear hend0
  have hw4 : ∀ w ∈ wsX40, w ∈ wsX4_when := by decide +kernel
  have k10 := hts (.fieldLink RX4 10 "AnchorsForConfession" "now" "LAnchorsForConfession$Harbour;") (by decide +kernel)
  have k16 := hts (.fieldLink RX4 16 "AnchorsForConfession" "thought" "LAnchorsForConfession$Harbour;") (by decide +kernel)
  replace hl : lv_has ls 5 [(0, .ref (A 0)), (1, .int p1), (2, .int p2)] := hl
  refine lv_aload_n hx hb dX4_when_0 rfl (lv_at hl 0 rfl) ?_
  refine va_get (D := D) (ci := 4) (v := .ref (A 1)) (C := RX4) (T := TX4) (N := 8) hx hb hts hw4 hown hK hP 0 cX_at0 rfl 0 (by decide) k10 (fun _ h9 => h9) rfl dX4_when_1 ?_
  refine lv_iload_n hx hb dX4_when_4 rfl (lv_at hl 1 rfl) ?_
  obtain ⟨a_1, ha_1, hf⟩ := bd_e hf
  refine Ct.callV (As := [.int p1]) (rest := []) (st1 := [.int a_1]) (c_X0_hasShip l D cI (fun j => A (1 + j)) n p1 a_1 ha_1) hx hb hml hown hts (cwV 1 hts gX4_when_X0_hasShip rfl rfl rfl hd_X0_hasShip ⟨Nat.le_of_ble_eq_true rfl, Nat.le_of_ble_eq_true rfl⟩) (va_recv hK hP (ci := 0) (q0 := 1) rfl cX_at1) ln_X_H_n hA hK hP hD hS rfl hl.1 rfl rfl (Nat.le_of_ble_eq_true rfl) dX4_when_5 (fun H locs hP hD hS => ?_)
  refine lv_if_ne (tgt := 17) hx hb dX4_when_8 (by decide) (fun c_2 => ?_) (fun c_2 => ?_)
  · replace hf := if_f c_2 hf
    refine lv_iload_n hx hb dX4_when_17 rfl (lv_at hl 2 rfl) ?_
    refine lv_if_ge (tgt := 28) hx hb dX4_when_18 (by decide) (fun c_3 => ?_) (fun c_3 => ?_)
    · replace hf := if_t c_3 hf
      refine lv_iload_n hx hb dX4_when_28 rfl (lv_at hl 2 rfl) ?_
      refine lv_bipush (v := 20) hx hb dX4_when_29 (by decide +kernel) ?_
      refine lv_icmp_le (tgt := 41) hx hb dX4_when_31 (by decide) (fun c_4 => ?_) (fun c_4 => ?_)
      · replace hf := if_t c_4 hf
        refine lv_aload_n hx hb dX4_when_41 rfl (lv_at hl 0 rfl) ?_
        refine va_get (D := D) (ci := 4) (v := .ref (A 10)) (C := RX4) (T := TX4) (N := 8) hx hb hts hw4 hown hK hP 0 cX_at0 rfl 1 (by decide) k16 (fun _ h9 => h9) rfl dX4_when_42 ?_
        refine lv_aload_n hx hb dX4_when_45 rfl (lv_at hl 0 rfl) ?_
        refine va_get (D := D) (ci := 4) (v := .ref (A 1)) (C := RX4) (T := TX4) (N := 8) hx hb hts hw4 hown hK hP 0 cX_at0 rfl 0 (by decide) k10 (fun _ h9 => h9) rfl dX4_when_46 ?_
        obtain ⟨a_5, ha_5, hf⟩ := bd_e hf
        refine Ct.callV (As := [.ref (A 1)]) (rest := []) (st1 := []) (c_X0_copyFrom l D cI (fun j => A (10 + j)) (fun j => A (1 + j)) t n a_5 ha_5) hx hb hml hown hts (cwV 1 hts gX4_when_X0_copyFrom rfl rfl rfl hd_X0_copyFrom ⟨Nat.le_of_ble_eq_true rfl, Nat.le_of_ble_eq_true rfl⟩) (va_recv hK hP (ci := 0) (q0 := 10) rfl cX_at10) ln_X_HH_tn hA hK hP hD hS rfl hl.1 rfl rfl (Nat.le_of_ble_eq_true rfl) dX4_when_49 (fun H locs hP hD hS => ?_)
        replace hP : va_P D vwCl (cX cI A n a_5 k g w z q) H := hP
        replace hD : va_D AA (cX cI A n a_5 k g w z q) := hD
        refine lv_iconst (v := 0) hx hb dX4_when_52 (by decide) ?_
        refine lv_istore_n (lv' := [(3, .int (0 : Int32)), (0, .ref (A 0)), (1, .int p1), (2, .int p2)]) hx hb dX4_when_53 rfl hl (by decide) rfl (fun ls hl => ?_)
        refine lp_ind (P := fun (q54 : Int32 × St) => ∀ (H : Heap) (locs : List Loc) (ls : Array Slot), va_P D vwCl (cX cI A n q54.2 k g w z q) H → va_D AA (cX cI A n q54.2 k g w z q) → va_S AA s.heap H locs → lv_has ls 5 [(0, .ref (A 0)), (1, .int p1), (2, .int p2), (3, .int q54.1)] → W p l e rm_X4_when s m args below meth c H locs 0 0 Q (F0 m 54 ls [])) hf ?_ H locs ls hP hD hS (lv_sub hl [1, 2, 3, 0] rfl)
        clear hf hP hD hS hl
        intro nx54 ih54 q54 hf H locs ls hP hD hS hl
        refine lv_iload_n hx hb dX4_when_54 rfl (lv_at hl 3 rfl) ?_
        refine lv_bipush (v := 60) hx hb dX4_when_55 (by decide +kernel) ?_
        refine lv_icmp_gt (tgt := 115) hx hb dX4_when_57 (by decide) (fun c_6 => ?_) (fun c_6 => ?_)
        · replace hf := if_t c_6 hf
          refine lv_bipush (v := -9) hx hb dX4_when_115 (by decide +kernel) ?_
          exact hend ((-9 : Int32), q54.2, q) H locs _ _ hf hP hS dX4_when_117
        · replace hf := if_f c_6 hf
          refine lv_aload_n hx hb dX4_when_60 rfl (lv_at hl 0 rfl) ?_
          refine va_get (D := D) (ci := 4) (v := .ref (A 10)) (C := RX4) (T := TX4) (N := 8) hx hb hts hw4 hown hK hP 0 cX_at0 rfl 1 (by decide) k16 (fun _ h9 => h9) rfl dX4_when_61 ?_
          refine lv_iload_n hx hb dX4_when_64 rfl (lv_at hl 1 rfl) ?_
          obtain ⟨a_7, ha_7, hf⟩ := bd_e hf
          refine Ct.callV (As := [.int p1]) (rest := []) (st1 := [.int a_7]) (c_X0_isIn l D cI (fun j => A (10 + j)) q54.2 p1 a_7 ha_7) hx hb hml hown hts (cwV 1 hts gX4_when_X0_isIn rfl rfl rfl hd_X0_isIn ⟨Nat.le_of_ble_eq_true rfl, Nat.le_of_ble_eq_true rfl⟩) (va_recv hK hP (ci := 0) (q0 := 10) rfl cX_at10) ln_X_H_t hA hK hP hD hS rfl hl.1 rfl rfl (Nat.le_of_ble_eq_true rfl) dX4_when_65 (fun H locs hP hD hS => ?_)
          refine lv_if_eq (tgt := 82) hx hb dX4_when_68 (by decide) (fun c_8 => ?_) (fun c_8 => ?_)
          · replace hf := if_t c_8 hf
            refine lv_bipush (v := -9) hx hb dX4_when_82 (by decide +kernel) ?_
            refine lv_istore (lv' := [(4, .int (-9 : Int32)), (0, .ref (A 0)), (1, .int p1), (2, .int p2), (3, .int q54.1)]) hx hb dX4_when_84 hl (by decide) rfl (fun ls hl => ?_)
            refine lv_iload hx hb dX4_when_86 (lv_at hl 0 rfl) ?_
            refine lv_bipush (v := -9) hx hb dX4_when_88 (by decide +kernel) ?_
            refine lv_icmp_eq (tgt := 101) hx hb dX4_when_90 (by decide) (fun _ => ?_) (fun c0 => absurd c0 (by decide))
            refine lv_aload_n hx hb dX4_when_101 rfl (lv_at hl 1 rfl) ?_
            refine va_get (D := D) (ci := 4) (v := .ref (A 10)) (C := RX4) (T := TX4) (N := 8) hx hb hts hw4 hown hK hP 0 cX_at0 rfl 1 (by decide) k16 (fun _ h9 => h9) rfl dX4_when_102 ?_
            refine lv_iconst (v := 1) hx hb dX4_when_105 (by decide) ?_
            obtain ⟨a_9, ha_9, hf⟩ := bd_e hf
            refine Ct.callV (As := [.int (1 : Int32)]) (rest := []) (st1 := []) (c_X0_passTides l D cI (fun j => A (10 + j)) q54.2 (1 : Int32) a_9 ha_9) hx hb hml hown hts (cwV 1 hts gX4_when_X0_passTides rfl rfl rfl hd_X0_passTides ⟨Nat.le_of_ble_eq_true rfl, Nat.le_of_ble_eq_true rfl⟩) (va_recv hK hP (ci := 0) (q0 := 10) rfl cX_at10) ln_X_H_t hA hK hP hD hS rfl hl.1 rfl rfl (Nat.le_of_ble_eq_true rfl) dX4_when_106 (fun H locs hP hD hS => ?_)
            replace hP : va_P D vwCl (cX cI A n a_9 k g w z q) H := hP
            replace hD : va_D AA (cX cI A n a_9 k g w z q) := hD
            obtain ⟨v_10, ev_10, hf⟩ := nm_e hf
            refine lv_iinc (v := v_10) (lv' := [(3, .int v_10), (4, .int (-9 : Int32)), (0, .ref (A 0)), (1, .int p1), (2, .int p2)]) hx hb dX4_when_109 hl (k := 4) rfl (by rw [ev_10]; rfl) (by decide) rfl (fun ls hl => ?_)
            refine lv_goto (tgt := 54) hx hb dX4_when_112 (by decide) ?_
            exact ih54 (v_10, a_9) hf H locs ls hP hD hS (lv_sub hl [2, 3, 4, 0] rfl)
          · replace hf := if_f c_8 hf
            refine lv_aload_n hx hb dX4_when_71 rfl (lv_at hl 0 rfl) ?_
            refine va_get (D := D) (ci := 4) (v := .ref (A 10)) (C := RX4) (T := TX4) (N := 8) hx hb hts hw4 hown hK hP 0 cX_at0 rfl 1 (by decide) k16 (fun _ h9 => h9) rfl dX4_when_72 ?_
            refine lv_iload_n hx hb dX4_when_75 rfl (lv_at hl 1 rfl) ?_
            obtain ⟨a_11, ha_11, hf⟩ := bd_e hf
            refine Ct.callV (As := [.int p1]) (rest := []) (st1 := [.int a_11.1]) (c_X0_fewestWords l D cI (fun j => A (10 + j)) q54.2 p1 a_11 ha_11) hx hb hml hown hts (cwV 1 hts gX4_when_X0_fewestWords rfl rfl rfl hd_X0_fewestWords ⟨Nat.le_of_ble_eq_true rfl, Nat.le_of_ble_eq_true rfl⟩) (va_recv hK hP (ci := 0) (q0 := 10) rfl cX_at10) ln_X_H_t hA hK hP hD hS rfl hl.1 rfl rfl (Nat.le_of_ble_eq_true rfl) dX4_when_76 (fun H locs hP hD hS => ?_)
            replace hP : va_P D vwCl (cX cI A n a_11.2 k g w z q) H := hP
            replace hD : va_D AA (cX cI A n a_11.2 k g w z q) := hD
            refine lv_goto (tgt := 84) hx hb dX4_when_79 (by decide) ?_
            refine lv_istore (lv' := [(4, .int a_11.1), (0, .ref (A 0)), (1, .int p1), (2, .int p2), (3, .int q54.1)]) hx hb dX4_when_84 hl (by decide) rfl (fun ls hl => ?_)
            refine lv_iload hx hb dX4_when_86 (lv_at hl 0 rfl) ?_
            refine lv_bipush (v := -9) hx hb dX4_when_88 (by decide +kernel) ?_
            refine lv_icmp_eq (tgt := 101) hx hb dX4_when_90 (by decide) (fun c_12 => ?_) (fun c_12 => ?_)
            · replace hf := if_t c_12 hf
              refine lv_aload_n hx hb dX4_when_101 rfl (lv_at hl 1 rfl) ?_
              refine va_get (D := D) (ci := 4) (v := .ref (A 10)) (C := RX4) (T := TX4) (N := 8) hx hb hts hw4 hown hK hP 0 cX_at0 rfl 1 (by decide) k16 (fun _ h9 => h9) rfl dX4_when_102 ?_
              refine lv_iconst (v := 1) hx hb dX4_when_105 (by decide) ?_
              obtain ⟨a_13, ha_13, hf⟩ := bd_e hf
              refine Ct.callV (As := [.int (1 : Int32)]) (rest := []) (st1 := []) (c_X0_passTides l D cI (fun j => A (10 + j)) a_11.2 (1 : Int32) a_13 ha_13) hx hb hml hown hts (cwV 1 hts gX4_when_X0_passTides rfl rfl rfl hd_X0_passTides ⟨Nat.le_of_ble_eq_true rfl, Nat.le_of_ble_eq_true rfl⟩) (va_recv hK hP (ci := 0) (q0 := 10) rfl cX_at10) ln_X_H_t hA hK hP hD hS rfl hl.1 rfl rfl (Nat.le_of_ble_eq_true rfl) dX4_when_106 (fun H locs hP hD hS => ?_)
              replace hP : va_P D vwCl (cX cI A n a_13 k g w z q) H := hP
              replace hD : va_D AA (cX cI A n a_13 k g w z q) := hD
              obtain ⟨v_14, ev_14, hf⟩ := nm_e hf
              refine lv_iinc (v := v_14) (lv' := [(3, .int v_14), (4, .int a_11.1), (0, .ref (A 0)), (1, .int p1), (2, .int p2)]) hx hb dX4_when_109 hl (k := 4) rfl (by rw [ev_14]; rfl) (by decide) rfl (fun ls hl => ?_)
              refine lv_goto (tgt := 54) hx hb dX4_when_112 (by decide) ?_
              exact ih54 (v_14, a_13) hf H locs ls hP hD hS (lv_sub hl [2, 3, 4, 0] rfl)
            · replace hf := if_f c_12 hf
              refine lv_iload hx hb dX4_when_93 (lv_at hl 0 rfl) ?_
              refine lv_iload_n hx hb dX4_when_95 rfl (lv_at hl 3 rfl) ?_
              refine lv_icmp_gt (tgt := 101) hx hb dX4_when_96 (by decide) (fun c_15 => ?_) (fun c_15 => ?_)
              · replace hf := if_t c_15 hf
                refine lv_aload_n hx hb dX4_when_101 rfl (lv_at hl 1 rfl) ?_
                refine va_get (D := D) (ci := 4) (v := .ref (A 10)) (C := RX4) (T := TX4) (N := 8) hx hb hts hw4 hown hK hP 0 cX_at0 rfl 1 (by decide) k16 (fun _ h9 => h9) rfl dX4_when_102 ?_
                refine lv_iconst (v := 1) hx hb dX4_when_105 (by decide) ?_
                obtain ⟨a_16, ha_16, hf⟩ := bd_e hf
                refine Ct.callV (As := [.int (1 : Int32)]) (rest := []) (st1 := []) (c_X0_passTides l D cI (fun j => A (10 + j)) a_11.2 (1 : Int32) a_16 ha_16) hx hb hml hown hts (cwV 1 hts gX4_when_X0_passTides rfl rfl rfl hd_X0_passTides ⟨Nat.le_of_ble_eq_true rfl, Nat.le_of_ble_eq_true rfl⟩) (va_recv hK hP (ci := 0) (q0 := 10) rfl cX_at10) ln_X_H_t hA hK hP hD hS rfl hl.1 rfl rfl (Nat.le_of_ble_eq_true rfl) dX4_when_106 (fun H locs hP hD hS => ?_)
                replace hP : va_P D vwCl (cX cI A n a_16 k g w z q) H := hP
                replace hD : va_D AA (cX cI A n a_16 k g w z q) := hD
                obtain ⟨v_17, ev_17, hf⟩ := nm_e hf
                refine lv_iinc (v := v_17) (lv' := [(3, .int v_17), (4, .int a_11.1), (0, .ref (A 0)), (1, .int p1), (2, .int p2)]) hx hb dX4_when_109 hl (k := 4) rfl (by rw [ev_17]; rfl) (by decide) rfl (fun ls hl => ?_)
                refine lv_goto (tgt := 54) hx hb dX4_when_112 (by decide) ?_
                exact ih54 (v_17, a_16) hf H locs ls hP hD hS (lv_sub hl [2, 3, 4, 0] rfl)
              · replace hf := if_f c_15 hf
                refine lv_iload_n hx hb dX4_when_99 rfl (lv_at hl 4 rfl) ?_
                exact hend (q54.1, a_11.2, q) H locs _ _ hf hP hS dX4_when_100
      · replace hf := if_f c_4 hf
        refine lv_aload_n hx hb dX4_when_34 rfl (lv_at hl 0 rfl) ?_
        refine lv_bipush (v := -6) hx hb dX4_when_35 (by decide +kernel) ?_
        obtain ⟨a_18, ha_18, hf⟩ := bd_e hf
        refine Ct.callV (As := [.int (-6 : Int32)]) (rest := []) (st1 := [.int a_18.1]) (c_X4_refused l D cI A n t k g w z q (-6 : Int32) a_18 ha_18) hx hb hml hown hts (cwV 1 hts gX4_when_X4_refused rfl rfl rfl hd_X4_refused ⟨Nat.le_of_ble_eq_true rfl, Nat.le_of_ble_eq_true rfl⟩) (va_recv hK hP (ci := 4) (q0 := 0) rfl cX_at0) (Ln.id rfl) hA hK hP hD hS rfl hl.1 rfl rfl (Nat.le_of_ble_eq_true rfl) dX4_when_37 (fun H locs hP hD hS => ?_)
        replace hP : va_P D vwCl (cX cI A n t k g w z a_18.2) H := hP
        replace hD : va_D AA (cX cI A n t k g w z a_18.2) := hD
        exact hend (a_18.1, t, a_18.2) H locs _ _ hf hP hS dX4_when_40
    · replace hf := if_f c_3 hf
      refine lv_aload_n hx hb dX4_when_21 rfl (lv_at hl 0 rfl) ?_
      refine lv_bipush (v := -4) hx hb dX4_when_22 (by decide +kernel) ?_
      obtain ⟨a_19, ha_19, hf⟩ := bd_e hf
      refine Ct.callV (As := [.int (-4 : Int32)]) (rest := []) (st1 := [.int a_19.1]) (c_X4_refused l D cI A n t k g w z q (-4 : Int32) a_19 ha_19) hx hb hml hown hts (cwV 1 hts gX4_when_X4_refused rfl rfl rfl hd_X4_refused ⟨Nat.le_of_ble_eq_true rfl, Nat.le_of_ble_eq_true rfl⟩) (va_recv hK hP (ci := 4) (q0 := 0) rfl cX_at0) (Ln.id rfl) hA hK hP hD hS rfl hl.1 rfl rfl (Nat.le_of_ble_eq_true rfl) dX4_when_24 (fun H locs hP hD hS => ?_)
      replace hP : va_P D vwCl (cX cI A n t k g w z a_19.2) H := hP
      replace hD : va_D AA (cX cI A n t k g w z a_19.2) := hD
      exact hend (a_19.1, t, a_19.2) H locs _ _ hf hP hS dX4_when_27
  · replace hf := if_t c_2 hf
    refine lv_aload_n hx hb dX4_when_11 rfl (lv_at hl 0 rfl) ?_
    refine lv_iconst (v := -1) hx hb dX4_when_12 (by decide) ?_
    obtain ⟨a_20, ha_20, hf⟩ := bd_e hf
    refine Ct.callV (As := [.int (-1 : Int32)]) (rest := []) (st1 := [.int a_20.1]) (c_X4_refused l D cI A n t k g w z q (-1 : Int32) a_20 ha_20) hx hb hml hown hts (cwV 1 hts gX4_when_X4_refused rfl rfl rfl hd_X4_refused ⟨Nat.le_of_ble_eq_true rfl, Nat.le_of_ble_eq_true rfl⟩) (va_recv hK hP (ci := 4) (q0 := 0) rfl cX_at0) (Ln.id rfl) hA hK hP hD hS rfl hl.1 rfl rfl (Nat.le_of_ble_eq_true rfl) dX4_when_13 (fun H locs hP hD hS => ?_)
    replace hP : va_P D vwCl (cX cI A n t k g w z a_20.2) H := hP
    replace hD : va_D AA (cX cI A n t k g w z a_20.2) := hD
    exact hend (a_20.1, t, a_20.2) H locs _ _ hf hP hS dX4_when_16

def f_X4_cheapest (n : St) (t : St) (k : St) (g : St) (w : St) (z : St) (q : St) : Option (Int32 × St) := (lp (fun (nx8 : (Int32 × Int32 × Int32 × St) → Option (Int32 × St)) (q8 : Int32 × Int32 × Int32 × St) => (if (q8.2.2.2 16 0) ≤ q8.2.2.1 then (some (q8.1, q8.2.2.2)) else (bd (f_X0_isIn q8.2.2.2 q8.2.2.1) fun a_2 => (if a_2 = 0 then (nm (q8.2.2.1 + (1 : Int32)) fun v_4 => (nx8 (q8.1, q8.2.1, v_4, q8.2.2.2))) else (bd (f_X0_fewestWords q8.2.2.2 q8.2.2.1) fun a_5 => (if a_5.1 = (-9 : Int32) then (nm (q8.2.2.1 + (1 : Int32)) fun v_7 => (nx8 (q8.1, q8.2.1, v_7, a_5.2))) else (if q8.2.1 ≤ a_5.1 then (nm (q8.2.2.1 + (1 : Int32)) fun v_9 => (nx8 (q8.1, q8.2.1, v_9, a_5.2))) else (nm (q8.2.2.1 + (1 : Int32)) fun v_10 => (nx8 (q8.2.2.1, a_5.1, v_10, a_5.2)))))))))) 1000 ((-9 : Int32), (2147483647 : Int32), (0 : Int32), n))
def rm_X4_cheapest : Room := { frames := 4, cells := 0, slots := 0, locals := 93 }
theorem hd_X4_cheapest : yX4_cheapest.cls = RX4 ∧ yX4_cheapest.cls ≠ "java/lang/invoke/MethodHandle" ∧ yX4_cheapest.cls ≠ "java/lang/invoke/VarHandle" ∧ (parseMethodDescriptor yX4_cheapest.desc).map (fun d => d.parameters.length) = some 0 := by decide +kernel
set_option maxRecDepth 100000 in
set_option maxHeartbeats 4000000 in
theorem c_X4_cheapest (l : Launch) (D : va_G) (cI : ClassId) (A : Nat → Nat) (n : St) (t : St) (k : St) (g : St) (w : St) (z : St) (q : St) (r : Int32 × St) (hf : f_X4_cheapest n t k g w z q = some r) : Ct l yX4_cheapest wsX4_cheapest rm_X4_cheapest D cI (cX cI A n t k g w z q) (cX cI A r.2 t k g w z q) [.ref (A 0)] (some (.int r.1)) := by
  unfold f_X4_cheapest at hf
  refine Ct.ofI (cc := cX4_cheapest) (maxL := 5) (by decide +kernel) rfl (Nat.le_of_ble_eq_true rfl) ?_
  intro p e s m args below meth c AA Q H locs ls hx hb hml hown hts hA hK hP hD hS hl hend0
  have hend : ∀ (r1 : Int32 × St) (H : Heap) (locs : List Loc) (pc : Nat) (ls : Array Slot), some r1 = some r → va_P D vwCl (cX cI A r1.2 t k g w z q) H → va_S AA s.heap H locs → decode cX4_cheapest pc = .ok (.ireturn, 1) → W p l e rm_X4_cheapest s m args below meth c H locs 0 0 Q (F0 m pc ls [.int r1.1]) := by
    intro r1 H locs pc ls e1 hP hS hd; cases e1; exact hend0 H locs pc ls hP hS hd
  clear hend0
  have hw0 : ∀ w ∈ wsX00, w ∈ wsX4_cheapest := by decide +kernel
  have hw4 : ∀ w ∈ wsX40, w ∈ wsX4_cheapest := by decide +kernel
  have k10 := hts (.fieldLink RX4 10 "AnchorsForConfession" "now" "LAnchorsForConfession$Harbour;") (by decide +kernel)
  have k136 := hts (.fieldLink RX4 136 "AnchorsForConfession$Harbour" "ships" "I") (by decide +kernel)
  have kc154 := hts (.constant RX4 154 2147483647) (by decide +kernel)
  replace hl : lv_has ls 5 [(0, .ref (A 0))] := hl
  refine lv_bipush (v := -9) hx hb dX4_cheapest_0 (by decide +kernel) ?_
  refine lv_istore_n (lv' := [(1, .int (-9 : Int32)), (0, .ref (A 0))]) hx hb dX4_cheapest_2 rfl hl (by decide) rfl (fun ls hl => ?_)
  refine lv_ldc (v := 2147483647) hx hb hown kc154 dX4_cheapest_3 ?_
  refine lv_istore_n (lv' := [(2, .int (2147483647 : Int32)), (1, .int (-9 : Int32)), (0, .ref (A 0))]) hx hb dX4_cheapest_5 rfl hl (by decide) rfl (fun ls hl => ?_)
  refine lv_iconst (v := 0) hx hb dX4_cheapest_6 (by decide) ?_
  refine lv_istore_n (lv' := [(3, .int (0 : Int32)), (2, .int (2147483647 : Int32)), (1, .int (-9 : Int32)), (0, .ref (A 0))]) hx hb dX4_cheapest_7 rfl hl (by decide) rfl (fun ls hl => ?_)
  refine lp_ind (P := fun (q8 : Int32 × Int32 × Int32 × St) => ∀ (H : Heap) (locs : List Loc) (ls : Array Slot), va_P D vwCl (cX cI A q8.2.2.2 t k g w z q) H → va_D AA (cX cI A q8.2.2.2 t k g w z q) → va_S AA s.heap H locs → lv_has ls 5 [(0, .ref (A 0)), (1, .int q8.1), (2, .int q8.2.1), (3, .int q8.2.2.1)] → W p l e rm_X4_cheapest s m args below meth c H locs 0 0 Q (F0 m 8 ls [])) hf ?_ H locs ls hP hD hS (lv_sub hl [3, 2, 1, 0] rfl)
  clear hf hP hD hS hl
  intro nx8 ih8 q8 hf H locs ls hP hD hS hl
  refine lv_iload_n hx hb dX4_cheapest_8 rfl (lv_at hl 3 rfl) ?_
  refine lv_aload_n hx hb dX4_cheapest_9 rfl (lv_at hl 0 rfl) ?_
  refine va_get (D := D) (ci := 4) (v := .ref (A 1)) (C := RX4) (T := TX4) (N := 8) hx hb hts hw4 hown hK hP 0 cX_at0 rfl 0 (by decide) k10 (fun _ h9 => h9) rfl dX4_cheapest_10 ?_
  refine va_get (D := D) (ci := 0) (v := .int (q8.2.2.2 16 0)) (C := RX0) (T := TX0) (N := 12) hx hb hts hw0 hown hK hP 1 cX_at1 rfl 0 (by decide) k136 (fun _ h9 => h9) rfl dX4_cheapest_13 ?_
  refine lv_icmp_ge (tgt := 69) hx hb dX4_cheapest_16 (by decide) (fun c_1 => ?_) (fun c_1 => ?_)
  · replace hf := if_t c_1 hf
    refine lv_iload_n hx hb dX4_cheapest_69 rfl (lv_at hl 1 rfl) ?_
    exact hend (q8.1, q8.2.2.2) H locs _ _ hf hP hS dX4_cheapest_70
  · replace hf := if_f c_1 hf
    refine lv_aload_n hx hb dX4_cheapest_19 rfl (lv_at hl 0 rfl) ?_
    refine va_get (D := D) (ci := 4) (v := .ref (A 1)) (C := RX4) (T := TX4) (N := 8) hx hb hts hw4 hown hK hP 0 cX_at0 rfl 0 (by decide) k10 (fun _ h9 => h9) rfl dX4_cheapest_20 ?_
    refine lv_iload_n hx hb dX4_cheapest_23 rfl (lv_at hl 3 rfl) ?_
    obtain ⟨a_2, ha_2, hf⟩ := bd_e hf
    refine Ct.callV (As := [.int q8.2.2.1]) (rest := []) (st1 := [.int a_2]) (c_X0_isIn l D cI (fun j => A (1 + j)) q8.2.2.2 q8.2.2.1 a_2 ha_2) hx hb hml hown hts (cwV 1 hts gX4_cheapest_X0_isIn rfl rfl rfl hd_X0_isIn ⟨Nat.le_of_ble_eq_true rfl, Nat.le_of_ble_eq_true rfl⟩) (va_recv hK hP (ci := 0) (q0 := 1) rfl cX_at1) ln_X_H_n hA hK hP hD hS rfl hl.1 rfl rfl (Nat.le_of_ble_eq_true rfl) dX4_cheapest_24 (fun H locs hP hD hS => ?_)
    refine lv_if_eq (tgt := 41) hx hb dX4_cheapest_27 (by decide) (fun c_3 => ?_) (fun c_3 => ?_)
    · replace hf := if_t c_3 hf
      refine lv_bipush (v := -9) hx hb dX4_cheapest_41 (by decide +kernel) ?_
      refine lv_istore (lv' := [(4, .int (-9 : Int32)), (0, .ref (A 0)), (1, .int q8.1), (2, .int q8.2.1), (3, .int q8.2.2.1)]) hx hb dX4_cheapest_43 hl (by decide) rfl (fun ls hl => ?_)
      refine lv_iload hx hb dX4_cheapest_45 (lv_at hl 0 rfl) ?_
      refine lv_bipush (v := -9) hx hb dX4_cheapest_47 (by decide +kernel) ?_
      refine lv_icmp_eq (tgt := 63) hx hb dX4_cheapest_49 (by decide) (fun _ => ?_) (fun c0 => absurd c0 (by decide))
      obtain ⟨v_4, ev_4, hf⟩ := nm_e hf
      refine lv_iinc (v := v_4) (lv' := [(3, .int v_4), (4, .int (-9 : Int32)), (0, .ref (A 0)), (1, .int q8.1), (2, .int q8.2.1)]) hx hb dX4_cheapest_63 hl (k := 4) rfl (by rw [ev_4]; rfl) (by decide) rfl (fun ls hl => ?_)
      refine lv_goto (tgt := 8) hx hb dX4_cheapest_66 (by decide) ?_
      exact ih8 (q8.1, q8.2.1, v_4, q8.2.2.2) hf H locs ls hP hD hS (lv_sub hl [2, 3, 4, 0] rfl)
    · replace hf := if_f c_3 hf
      refine lv_aload_n hx hb dX4_cheapest_30 rfl (lv_at hl 0 rfl) ?_
      refine va_get (D := D) (ci := 4) (v := .ref (A 1)) (C := RX4) (T := TX4) (N := 8) hx hb hts hw4 hown hK hP 0 cX_at0 rfl 0 (by decide) k10 (fun _ h9 => h9) rfl dX4_cheapest_31 ?_
      refine lv_iload_n hx hb dX4_cheapest_34 rfl (lv_at hl 3 rfl) ?_
      obtain ⟨a_5, ha_5, hf⟩ := bd_e hf
      refine Ct.callV (As := [.int q8.2.2.1]) (rest := []) (st1 := [.int a_5.1]) (c_X0_fewestWords l D cI (fun j => A (1 + j)) q8.2.2.2 q8.2.2.1 a_5 ha_5) hx hb hml hown hts (cwV 1 hts gX4_cheapest_X0_fewestWords rfl rfl rfl hd_X0_fewestWords ⟨Nat.le_of_ble_eq_true rfl, Nat.le_of_ble_eq_true rfl⟩) (va_recv hK hP (ci := 0) (q0 := 1) rfl cX_at1) ln_X_H_n hA hK hP hD hS rfl hl.1 rfl rfl (Nat.le_of_ble_eq_true rfl) dX4_cheapest_35 (fun H locs hP hD hS => ?_)
      replace hP : va_P D vwCl (cX cI A a_5.2 t k g w z q) H := hP
      replace hD : va_D AA (cX cI A a_5.2 t k g w z q) := hD
      refine lv_goto (tgt := 43) hx hb dX4_cheapest_38 (by decide) ?_
      refine lv_istore (lv' := [(4, .int a_5.1), (0, .ref (A 0)), (1, .int q8.1), (2, .int q8.2.1), (3, .int q8.2.2.1)]) hx hb dX4_cheapest_43 hl (by decide) rfl (fun ls hl => ?_)
      refine lv_iload hx hb dX4_cheapest_45 (lv_at hl 0 rfl) ?_
      refine lv_bipush (v := -9) hx hb dX4_cheapest_47 (by decide +kernel) ?_
      refine lv_icmp_eq (tgt := 63) hx hb dX4_cheapest_49 (by decide) (fun c_6 => ?_) (fun c_6 => ?_)
      · replace hf := if_t c_6 hf
        obtain ⟨v_7, ev_7, hf⟩ := nm_e hf
        refine lv_iinc (v := v_7) (lv' := [(3, .int v_7), (4, .int a_5.1), (0, .ref (A 0)), (1, .int q8.1), (2, .int q8.2.1)]) hx hb dX4_cheapest_63 hl (k := 4) rfl (by rw [ev_7]; rfl) (by decide) rfl (fun ls hl => ?_)
        refine lv_goto (tgt := 8) hx hb dX4_cheapest_66 (by decide) ?_
        exact ih8 (q8.1, q8.2.1, v_7, a_5.2) hf H locs ls hP hD hS (lv_sub hl [2, 3, 4, 0] rfl)
      · replace hf := if_f c_6 hf
        refine lv_iload hx hb dX4_cheapest_52 (lv_at hl 0 rfl) ?_
        refine lv_iload_n hx hb dX4_cheapest_54 rfl (lv_at hl 3 rfl) ?_
        refine lv_icmp_ge (tgt := 63) hx hb dX4_cheapest_55 (by decide) (fun c_8 => ?_) (fun c_8 => ?_)
        · replace hf := if_t c_8 hf
          obtain ⟨v_9, ev_9, hf⟩ := nm_e hf
          refine lv_iinc (v := v_9) (lv' := [(3, .int v_9), (4, .int a_5.1), (0, .ref (A 0)), (1, .int q8.1), (2, .int q8.2.1)]) hx hb dX4_cheapest_63 hl (k := 4) rfl (by rw [ev_9]; rfl) (by decide) rfl (fun ls hl => ?_)
          refine lv_goto (tgt := 8) hx hb dX4_cheapest_66 (by decide) ?_
          exact ih8 (q8.1, q8.2.1, v_9, a_5.2) hf H locs ls hP hD hS (lv_sub hl [2, 3, 4, 0] rfl)
        · replace hf := if_f c_8 hf
          refine lv_iload hx hb dX4_cheapest_58 (lv_at hl 0 rfl) ?_
          refine lv_istore_n (lv' := [(2, .int a_5.1), (4, .int a_5.1), (0, .ref (A 0)), (1, .int q8.1), (3, .int q8.2.2.1)]) hx hb dX4_cheapest_60 rfl hl (by decide) rfl (fun ls hl => ?_)
          refine lv_iload_n hx hb dX4_cheapest_61 rfl (lv_at hl 4 rfl) ?_
          refine lv_istore_n (lv' := [(1, .int q8.2.2.1), (2, .int a_5.1), (4, .int a_5.1), (0, .ref (A 0)), (3, .int q8.2.2.1)]) hx hb dX4_cheapest_62 rfl hl (by decide) rfl (fun ls hl => ?_)
          obtain ⟨v_10, ev_10, hf⟩ := nm_e hf
          refine lv_iinc (v := v_10) (lv' := [(3, .int v_10), (1, .int q8.2.2.1), (2, .int a_5.1), (4, .int a_5.1), (0, .ref (A 0))]) hx hb dX4_cheapest_63 hl (k := 4) rfl (by rw [ev_10]; rfl) (by decide) rfl (fun ls hl => ?_)
          refine lv_goto (tgt := 8) hx hb dX4_cheapest_66 (by decide) ?_
          exact ih8 (q8.2.2.1, a_5.1, v_10, a_5.2) hf H locs ls hP hD hS (lv_sub hl [4, 1, 2, 0] rfl)

def f_X4_berth (n : St) (t : St) (k : St) (g : St) (w : St) (z : St) (q : St) (p1 : Int32) : Option (Int32 × St × St) := (bd (f_X0_hasMan n p1) fun a_1 => (if a_1 = 0 then (bd (f_X4_refused n t k g w z q (-1 : Int32)) fun a_15 => (some (a_15.1, t, a_15.2))) else (bd (f_X0_countRisable n) fun a_3 => (bd (f_X0_copyFrom t n) fun a_4 => (lp (fun (nx42 : (Int32 × Int32 × Int32 × St) → Option (Int32 × St × St)) (q42 : Int32 × Int32 × Int32 × St) => (if (n 16 0) ≤ q42.2.2.1 then (some (q42.1, q42.2.2.2, q)) else (gi p1 8 (nm (su q42.2.2.2 7 (p1).toNatClampNeg q42.2.2.1) fun h_7 => (bd (f_X0_countRisable h_7) fun a_8 => (bd (f_X0_isIn n q42.2.2.1) fun a_9 => (if a_9 = 0 then (nm (q42.2.2.1 + (1 : Int32)) fun v_11 => (nx42 (q42.1, q42.2.1, v_11, h_7))) else (if a_8 ≤ q42.2.1 then (nm (q42.2.2.1 + (1 : Int32)) fun v_13 => (nx42 (q42.1, q42.2.1, v_13, h_7))) else (nm (q42.2.2.1 + (1 : Int32)) fun v_14 => (nx42 (q42.2.2.1, a_8, v_14, h_7))))))))))) 1000 ((-9 : Int32), a_3, (0 : Int32), a_4))))))
def rm_X4_berth : Room := { frames := 5, cells := 0, slots := 0, locals := 110 }
theorem hd_X4_berth : yX4_berth.cls = RX4 ∧ yX4_berth.cls ≠ "java/lang/invoke/MethodHandle" ∧ yX4_berth.cls ≠ "java/lang/invoke/VarHandle" ∧ (parseMethodDescriptor yX4_berth.desc).map (fun d => d.parameters.length) = some 1 := by decide +kernel
set_option maxRecDepth 100000 in
set_option maxHeartbeats 4000000 in
theorem c_X4_berth (l : Launch) (D : va_G) (cI : ClassId) (A : Nat → Nat) (n : St) (t : St) (k : St) (g : St) (w : St) (z : St) (q : St) (p1 : Int32) (r : Int32 × St × St) (hf : f_X4_berth n t k g w z q p1 = some r) : Ct l yX4_berth wsX4_berth rm_X4_berth D cI (cX cI A n t k g w z q) (cX cI A n r.2.1 k g w z r.2.2) [.ref (A 0), .int p1] (some (.int r.1)) := by
  unfold f_X4_berth at hf
  refine Ct.ofI (cc := cX4_berth) (maxL := 6) (by decide +kernel) rfl (Nat.le_of_ble_eq_true rfl) ?_
  intro p e s m args below meth c AA Q H locs ls hx hb hml hown hts hA hK hP hD hS hl hend0
  have hend : ∀ (r1 : Int32 × St × St) (H : Heap) (locs : List Loc) (pc : Nat) (ls : Array Slot), some r1 = some r → va_P D vwCl (cX cI A n r1.2.1 k g w z r1.2.2) H → va_S AA s.heap H locs → decode cX4_berth pc = .ok (.ireturn, 1) → W p l e rm_X4_berth s m args below meth c H locs 0 0 Q (F0 m pc ls [.int r1.1]) := by
    intro r1 H locs pc ls e1 hP hS hd; cases e1; exact hend0 H locs pc ls hP hS hd
  clear hend0
  have hw0 : ∀ w ∈ wsX00, w ∈ wsX4_berth := by decide +kernel
  have hw4 : ∀ w ∈ wsX40, w ∈ wsX4_berth := by decide +kernel
  have k10 := hts (.fieldLink RX4 10 "AnchorsForConfession" "now" "LAnchorsForConfession$Harbour;") (by decide +kernel)
  have k16 := hts (.fieldLink RX4 16 "AnchorsForConfession" "thought" "LAnchorsForConfession$Harbour;") (by decide +kernel)
  have k86 := hts (.fieldLink RX4 86 "AnchorsForConfession$Harbour" "aboard" "[I") (by decide +kernel)
  have k136 := hts (.fieldLink RX4 136 "AnchorsForConfession$Harbour" "ships" "I") (by decide +kernel)
  replace hl : lv_has ls 6 [(0, .ref (A 0)), (1, .int p1)] := hl
  refine lv_aload_n hx hb dX4_berth_0 rfl (lv_at hl 0 rfl) ?_
  refine va_get (D := D) (ci := 4) (v := .ref (A 1)) (C := RX4) (T := TX4) (N := 8) hx hb hts hw4 hown hK hP 0 cX_at0 rfl 0 (by decide) k10 (fun _ h9 => h9) rfl dX4_berth_1 ?_
  refine lv_iload_n hx hb dX4_berth_4 rfl (lv_at hl 1 rfl) ?_
  obtain ⟨a_1, ha_1, hf⟩ := bd_e hf
  refine Ct.callV (As := [.int p1]) (rest := []) (st1 := [.int a_1]) (c_X0_hasMan l D cI (fun j => A (1 + j)) n p1 a_1 ha_1) hx hb hml hown hts (cwV 1 hts gX4_berth_X0_hasMan rfl rfl rfl hd_X0_hasMan ⟨Nat.le_of_ble_eq_true rfl, Nat.le_of_ble_eq_true rfl⟩) (va_recv hK hP (ci := 0) (q0 := 1) rfl cX_at1) ln_X_H_n hA hK hP hD hS rfl hl.1 rfl rfl (Nat.le_of_ble_eq_true rfl) dX4_berth_5 (fun H locs hP hD hS => ?_)
  refine lv_if_ne (tgt := 17) hx hb dX4_berth_8 (by decide) (fun c_2 => ?_) (fun c_2 => ?_)
  · replace hf := if_f c_2 hf
    refine lv_bipush (v := -9) hx hb dX4_berth_17 (by decide +kernel) ?_
    refine lv_istore_n (lv' := [(2, .int (-9 : Int32)), (0, .ref (A 0)), (1, .int p1)]) hx hb dX4_berth_19 rfl hl (by decide) rfl (fun ls hl => ?_)
    refine lv_aload_n hx hb dX4_berth_20 rfl (lv_at hl 1 rfl) ?_
    refine va_get (D := D) (ci := 4) (v := .ref (A 1)) (C := RX4) (T := TX4) (N := 8) hx hb hts hw4 hown hK hP 0 cX_at0 rfl 0 (by decide) k10 (fun _ h9 => h9) rfl dX4_berth_21 ?_
    obtain ⟨a_3, ha_3, hf⟩ := bd_e hf
    refine Ct.callV (As := []) (rest := []) (st1 := [.int a_3]) (c_X0_countRisable l D cI (fun j => A (1 + j)) n a_3 ha_3) hx hb hml hown hts (cwV 0 hts gX4_berth_X0_countRisable rfl rfl rfl hd_X0_countRisable ⟨Nat.le_of_ble_eq_true rfl, Nat.le_of_ble_eq_true rfl⟩) (va_recv hK hP (ci := 0) (q0 := 1) rfl cX_at1) ln_X_H_n hA hK hP hD hS rfl hl.1 rfl rfl (Nat.le_of_ble_eq_true rfl) dX4_berth_24 (fun H locs hP hD hS => ?_)
    refine lv_istore_n (lv' := [(3, .int a_3), (2, .int (-9 : Int32)), (0, .ref (A 0)), (1, .int p1)]) hx hb dX4_berth_27 rfl hl (by decide) rfl (fun ls hl => ?_)
    refine lv_aload_n hx hb dX4_berth_28 rfl (lv_at hl 2 rfl) ?_
    refine va_get (D := D) (ci := 4) (v := .ref (A 10)) (C := RX4) (T := TX4) (N := 8) hx hb hts hw4 hown hK hP 0 cX_at0 rfl 1 (by decide) k16 (fun _ h9 => h9) rfl dX4_berth_29 ?_
    refine lv_aload_n hx hb dX4_berth_32 rfl (lv_at hl 2 rfl) ?_
    refine va_get (D := D) (ci := 4) (v := .ref (A 1)) (C := RX4) (T := TX4) (N := 8) hx hb hts hw4 hown hK hP 0 cX_at0 rfl 0 (by decide) k10 (fun _ h9 => h9) rfl dX4_berth_33 ?_
    obtain ⟨a_4, ha_4, hf⟩ := bd_e hf
    refine Ct.callV (As := [.ref (A 1)]) (rest := []) (st1 := []) (c_X0_copyFrom l D cI (fun j => A (10 + j)) (fun j => A (1 + j)) t n a_4 ha_4) hx hb hml hown hts (cwV 1 hts gX4_berth_X0_copyFrom rfl rfl rfl hd_X0_copyFrom ⟨Nat.le_of_ble_eq_true rfl, Nat.le_of_ble_eq_true rfl⟩) (va_recv hK hP (ci := 0) (q0 := 10) rfl cX_at10) ln_X_HH_tn hA hK hP hD hS rfl hl.1 rfl rfl (Nat.le_of_ble_eq_true rfl) dX4_berth_36 (fun H locs hP hD hS => ?_)
    replace hP : va_P D vwCl (cX cI A n a_4 k g w z q) H := hP
    replace hD : va_D AA (cX cI A n a_4 k g w z q) := hD
    refine lv_iconst (v := 0) hx hb dX4_berth_39 (by decide) ?_
    refine lv_istore (lv' := [(4, .int (0 : Int32)), (3, .int a_3), (2, .int (-9 : Int32)), (0, .ref (A 0)), (1, .int p1)]) hx hb dX4_berth_40 hl (by decide) rfl (fun ls hl => ?_)
    refine lp_ind (P := fun (q42 : Int32 × Int32 × Int32 × St) => ∀ (H : Heap) (locs : List Loc) (ls : Array Slot), va_P D vwCl (cX cI A n q42.2.2.2 k g w z q) H → va_D AA (cX cI A n q42.2.2.2 k g w z q) → va_S AA s.heap H locs → lv_has ls 6 [(0, .ref (A 0)), (1, .int p1), (2, .int q42.1), (3, .int q42.2.1), (4, .int q42.2.2.1)] → W p l e rm_X4_berth s m args below meth c H locs 0 0 Q (F0 m 42 ls [])) hf ?_ H locs ls hP hD hS (lv_sub hl [3, 4, 2, 1, 0] rfl)
    clear hf hP hD hS hl
    intro nx42 ih42 q42 hf H locs ls hP hD hS hl
    refine lv_iload hx hb dX4_berth_42 (lv_at hl 4 rfl) ?_
    refine lv_aload_n hx hb dX4_berth_44 rfl (lv_at hl 0 rfl) ?_
    refine va_get (D := D) (ci := 4) (v := .ref (A 1)) (C := RX4) (T := TX4) (N := 8) hx hb hts hw4 hown hK hP 0 cX_at0 rfl 0 (by decide) k10 (fun _ h9 => h9) rfl dX4_berth_45 ?_
    refine va_get (D := D) (ci := 0) (v := .int (n 16 0)) (C := RX0) (T := TX0) (N := 12) hx hb hts hw0 hown hK hP 1 cX_at1 rfl 0 (by decide) k136 (fun _ h9 => h9) rfl dX4_berth_48 ?_
    refine lv_icmp_ge (tgt := 104) hx hb dX4_berth_51 (by decide) (fun c_5 => ?_) (fun c_5 => ?_)
    · replace hf := if_t c_5 hf
      refine lv_iload_n hx hb dX4_berth_104 rfl (lv_at hl 2 rfl) ?_
      exact hend (q42.1, q42.2.2.2, q) H locs _ _ hf hP hS dX4_berth_105
    · replace hf := if_f c_5 hf
      refine lv_aload_n hx hb dX4_berth_54 rfl (lv_at hl 0 rfl) ?_
      refine va_get (D := D) (ci := 4) (v := .ref (A 10)) (C := RX4) (T := TX4) (N := 8) hx hb hts hw4 hown hK hP 0 cX_at0 rfl 1 (by decide) k16 (fun _ h9 => h9) rfl dX4_berth_55 ?_
      refine va_get (D := D) (ci := 0) (v := .ref (A 17)) (C := RX0) (T := TX0) (N := 12) hx hb hts hw0 hown hK hP 10 cX_at10 rfl 8 (by decide) k86 (fun _ h9 => h9) rfl dX4_berth_58 ?_
      refine lv_iload_n hx hb dX4_berth_61 rfl (lv_at hl 1 rfl) ?_
      refine lv_iload hx hb dX4_berth_62 (lv_at hl 4 rfl) ?_
      obtain ⟨c_6, hf⟩ := gi_e hf
      refine va_iast hx hb hK hP hD hS 17 0 cX_at17 rfl c_6 dX4_berth_64 (fun H locs hP hD hS => ?_)
      obtain ⟨h_7, eh_7, hf⟩ := nm_e hf
      rw [cX_su17, ← eh_7] at hP hD
      refine lv_aload_n hx hb dX4_berth_65 rfl (lv_at hl 0 rfl) ?_
      refine va_get (D := D) (ci := 4) (v := .ref (A 10)) (C := RX4) (T := TX4) (N := 8) hx hb hts hw4 hown hK hP 0 cX_at0 rfl 1 (by decide) k16 (fun _ h9 => h9) rfl dX4_berth_66 ?_
      obtain ⟨a_8, ha_8, hf⟩ := bd_e hf
      refine Ct.callV (As := []) (rest := []) (st1 := [.int a_8]) (c_X0_countRisable l D cI (fun j => A (10 + j)) h_7 a_8 ha_8) hx hb hml hown hts (cwV 0 hts gX4_berth_X0_countRisable rfl rfl rfl hd_X0_countRisable ⟨Nat.le_of_ble_eq_true rfl, Nat.le_of_ble_eq_true rfl⟩) (va_recv hK hP (ci := 0) (q0 := 10) rfl cX_at10) ln_X_H_t hA hK hP hD hS rfl hl.1 rfl rfl (Nat.le_of_ble_eq_true rfl) dX4_berth_69 (fun H locs hP hD hS => ?_)
      refine lv_istore (lv' := [(5, .int a_8), (0, .ref (A 0)), (1, .int p1), (2, .int q42.1), (3, .int q42.2.1), (4, .int q42.2.2.1)]) hx hb dX4_berth_72 hl (by decide) rfl (fun ls hl => ?_)
      refine lv_aload_n hx hb dX4_berth_74 rfl (lv_at hl 1 rfl) ?_
      refine va_get (D := D) (ci := 4) (v := .ref (A 1)) (C := RX4) (T := TX4) (N := 8) hx hb hts hw4 hown hK hP 0 cX_at0 rfl 0 (by decide) k10 (fun _ h9 => h9) rfl dX4_berth_75 ?_
      refine lv_iload hx hb dX4_berth_78 (lv_at hl 5 rfl) ?_
      obtain ⟨a_9, ha_9, hf⟩ := bd_e hf
      refine Ct.callV (As := [.int q42.2.2.1]) (rest := []) (st1 := [.int a_9]) (c_X0_isIn l D cI (fun j => A (1 + j)) n q42.2.2.1 a_9 ha_9) hx hb hml hown hts (cwV 1 hts gX4_berth_X0_isIn rfl rfl rfl hd_X0_isIn ⟨Nat.le_of_ble_eq_true rfl, Nat.le_of_ble_eq_true rfl⟩) (va_recv hK hP (ci := 0) (q0 := 1) rfl cX_at1) ln_X_H_n hA hK hP hD hS rfl hl.1 rfl rfl (Nat.le_of_ble_eq_true rfl) dX4_berth_80 (fun H locs hP hD hS => ?_)
      refine lv_if_eq (tgt := 98) hx hb dX4_berth_83 (by decide) (fun c_10 => ?_) (fun c_10 => ?_)
      · replace hf := if_t c_10 hf
        obtain ⟨v_11, ev_11, hf⟩ := nm_e hf
        refine lv_iinc (v := v_11) (lv' := [(4, .int v_11), (5, .int a_8), (0, .ref (A 0)), (1, .int p1), (2, .int q42.1), (3, .int q42.2.1)]) hx hb dX4_berth_98 hl (k := 5) rfl (by rw [ev_11]; rfl) (by decide) rfl (fun ls hl => ?_)
        refine lv_goto (tgt := 42) hx hb dX4_berth_101 (by decide) ?_
        exact ih42 (q42.1, q42.2.1, v_11, h_7) hf H locs ls hP hD hS (lv_sub hl [2, 3, 4, 5, 0] rfl)
      · replace hf := if_f c_10 hf
        refine lv_iload hx hb dX4_berth_86 (lv_at hl 0 rfl) ?_
        refine lv_iload_n hx hb dX4_berth_88 rfl (lv_at hl 4 rfl) ?_
        refine lv_icmp_le (tgt := 98) hx hb dX4_berth_89 (by decide) (fun c_12 => ?_) (fun c_12 => ?_)
        · replace hf := if_t c_12 hf
          obtain ⟨v_13, ev_13, hf⟩ := nm_e hf
          refine lv_iinc (v := v_13) (lv' := [(4, .int v_13), (5, .int a_8), (0, .ref (A 0)), (1, .int p1), (2, .int q42.1), (3, .int q42.2.1)]) hx hb dX4_berth_98 hl (k := 5) rfl (by rw [ev_13]; rfl) (by decide) rfl (fun ls hl => ?_)
          refine lv_goto (tgt := 42) hx hb dX4_berth_101 (by decide) ?_
          exact ih42 (q42.1, q42.2.1, v_13, h_7) hf H locs ls hP hD hS (lv_sub hl [2, 3, 4, 5, 0] rfl)
        · replace hf := if_f c_12 hf
          refine lv_iload hx hb dX4_berth_92 (lv_at hl 0 rfl) ?_
          refine lv_istore_n (lv' := [(3, .int a_8), (5, .int a_8), (0, .ref (A 0)), (1, .int p1), (2, .int q42.1), (4, .int q42.2.2.1)]) hx hb dX4_berth_94 rfl hl (by decide) rfl (fun ls hl => ?_)
          refine lv_iload hx hb dX4_berth_95 (lv_at hl 5 rfl) ?_
          refine lv_istore_n (lv' := [(2, .int q42.2.2.1), (3, .int a_8), (5, .int a_8), (0, .ref (A 0)), (1, .int p1), (4, .int q42.2.2.1)]) hx hb dX4_berth_97 rfl hl (by decide) rfl (fun ls hl => ?_)
          obtain ⟨v_14, ev_14, hf⟩ := nm_e hf
          refine lv_iinc (v := v_14) (lv' := [(4, .int v_14), (2, .int q42.2.2.1), (3, .int a_8), (5, .int a_8), (0, .ref (A 0)), (1, .int p1)]) hx hb dX4_berth_98 hl (k := 5) rfl (by rw [ev_14]; rfl) (by decide) rfl (fun ls hl => ?_)
          refine lv_goto (tgt := 42) hx hb dX4_berth_101 (by decide) ?_
          exact ih42 (q42.2.2.1, a_8, v_14, h_7) hf H locs ls hP hD hS (lv_sub hl [4, 5, 1, 2, 0] rfl)
  · replace hf := if_t c_2 hf
    refine lv_aload_n hx hb dX4_berth_11 rfl (lv_at hl 0 rfl) ?_
    refine lv_iconst (v := -1) hx hb dX4_berth_12 (by decide) ?_
    obtain ⟨a_15, ha_15, hf⟩ := bd_e hf
    refine Ct.callV (As := [.int (-1 : Int32)]) (rest := []) (st1 := [.int a_15.1]) (c_X4_refused l D cI A n t k g w z q (-1 : Int32) a_15 ha_15) hx hb hml hown hts (cwV 1 hts gX4_berth_X4_refused rfl rfl rfl hd_X4_refused ⟨Nat.le_of_ble_eq_true rfl, Nat.le_of_ble_eq_true rfl⟩) (va_recv hK hP (ci := 4) (q0 := 0) rfl cX_at0) (Ln.id rfl) hA hK hP hD hS rfl hl.1 rfl rfl (Nat.le_of_ble_eq_true rfl) dX4_berth_13 (fun H locs hP hD hS => ?_)
    replace hP : va_P D vwCl (cX cI A n t k g w z a_15.2) H := hP
    replace hD : va_D AA (cX cI A n t k g w z a_15.2) := hD
    exact hend (a_15.1, t, a_15.2) H locs _ _ hf hP hS dX4_berth_16

def f_X4_rise (n : St) (t : St) (k : St) (g : St) (w : St) (z : St) (q : St) : Option (Int32) := (bd (f_X0_countRisable n) fun a_1 => (some a_1))
def rm_X4_rise : Room := { frames := 5, cells := 0, slots := 0, locals := 110 }
theorem hd_X4_rise : yX4_rise.cls = RX4 ∧ yX4_rise.cls ≠ "java/lang/invoke/MethodHandle" ∧ yX4_rise.cls ≠ "java/lang/invoke/VarHandle" ∧ (parseMethodDescriptor yX4_rise.desc).map (fun d => d.parameters.length) = some 0 := by decide +kernel
set_option maxRecDepth 100000 in
set_option maxHeartbeats 4000000 in
theorem c_X4_rise (l : Launch) (D : va_G) (cI : ClassId) (A : Nat → Nat) (n : St) (t : St) (k : St) (g : St) (w : St) (z : St) (q : St) (r : Int32) (hf : f_X4_rise n t k g w z q = some r) : Ct l yX4_rise wsX4_rise rm_X4_rise D cI (cX cI A n t k g w z q) (cX cI A n t k g w z q) [.ref (A 0)] (some (.int r)) := by
  unfold f_X4_rise at hf
  refine Ct.ofI (cc := cX4_rise) (maxL := 1) (by decide +kernel) rfl (Nat.le_of_ble_eq_true rfl) ?_
  intro p e s m args below meth c AA Q H locs ls hx hb hml hown hts hA hK hP hD hS hl hend0
  have hend : ∀ (r1 : Int32) (H : Heap) (locs : List Loc) (pc : Nat) (ls : Array Slot), some r1 = some r → va_P D vwCl (cX cI A n t k g w z q) H → va_S AA s.heap H locs → decode cX4_rise pc = .ok (.ireturn, 1) → W p l e rm_X4_rise s m args below meth c H locs 0 0 Q (F0 m pc ls [.int r1]) := by
    intro r1 H locs pc ls e1 hP hS hd; cases e1; exact hend0 H locs pc ls hP hS hd
  clear hend0
  have hw4 : ∀ w ∈ wsX40, w ∈ wsX4_rise := by decide +kernel
  have k10 := hts (.fieldLink RX4 10 "AnchorsForConfession" "now" "LAnchorsForConfession$Harbour;") (by decide +kernel)
  replace hl : lv_has ls 1 [(0, .ref (A 0))] := hl
  refine lv_aload_n hx hb dX4_rise_0 rfl (lv_at hl 0 rfl) ?_
  refine va_get (D := D) (ci := 4) (v := .ref (A 1)) (C := RX4) (T := TX4) (N := 8) hx hb hts hw4 hown hK hP 0 cX_at0 rfl 0 (by decide) k10 (fun _ h9 => h9) rfl dX4_rise_1 ?_
  obtain ⟨a_1, ha_1, hf⟩ := bd_e hf
  refine Ct.callV (As := []) (rest := []) (st1 := [.int a_1]) (c_X0_countRisable l D cI (fun j => A (1 + j)) n a_1 ha_1) hx hb hml hown hts (cwV 0 hts gX4_rise_X0_countRisable rfl rfl rfl hd_X0_countRisable ⟨Nat.le_of_ble_eq_true rfl, Nat.le_of_ble_eq_true rfl⟩) (va_recv hK hP (ci := 0) (q0 := 1) rfl cX_at1) ln_X_H_n hA hK hP hD hS rfl hl.1 rfl rfl (Nat.le_of_ble_eq_true rfl) dX4_rise_4 (fun H locs hP hD hS => ?_)
  exact hend a_1 H locs _ _ hf hP hS dX4_rise_7

def f_X4_risableHavingChanged (n : St) (t : St) (k : St) (g : St) (w : St) (z : St) (q : St) (p1 : Int32) (p2 : Int32) : Option (Int32 × St) := (bd (f_X0_copyFrom t n) fun a_1 => (gi p2 8 (gi p1 8 (nm (su a_1 7 (p1).toNatClampNeg (n 7 (p2).toNatClampNeg)) fun h_4 => (gi p1 8 (gi p2 8 (nm (su h_4 7 (p2).toNatClampNeg (n 7 (p1).toNatClampNeg)) fun h_7 => (bd (f_X0_countRisable h_7) fun a_8 => (some (a_8, h_7))))))))))
def rm_X4_risableHavingChanged : Room := { frames := 5, cells := 0, slots := 0, locals := 110 }
theorem hd_X4_risableHavingChanged : yX4_risableHavingChanged.cls = RX4 ∧ yX4_risableHavingChanged.cls ≠ "java/lang/invoke/MethodHandle" ∧ yX4_risableHavingChanged.cls ≠ "java/lang/invoke/VarHandle" ∧ (parseMethodDescriptor yX4_risableHavingChanged.desc).map (fun d => d.parameters.length) = some 2 := by decide +kernel
set_option maxRecDepth 100000 in
set_option maxHeartbeats 4000000 in
theorem c_X4_risableHavingChanged (l : Launch) (D : va_G) (cI : ClassId) (A : Nat → Nat) (n : St) (t : St) (k : St) (g : St) (w : St) (z : St) (q : St) (p1 : Int32) (p2 : Int32) (r : Int32 × St) (hf : f_X4_risableHavingChanged n t k g w z q p1 p2 = some r) : Ct l yX4_risableHavingChanged wsX4_risableHavingChanged rm_X4_risableHavingChanged D cI (cX cI A n t k g w z q) (cX cI A n r.2 k g w z q) [.ref (A 0), .int p1, .int p2] (some (.int r.1)) := by
  unfold f_X4_risableHavingChanged at hf
  refine Ct.ofI (cc := cX4_risableHavingChanged) (maxL := 3) (by decide +kernel) rfl (Nat.le_of_ble_eq_true rfl) ?_
  intro p e s m args below meth c AA Q H locs ls hx hb hml hown hts hA hK hP hD hS hl hend0
  have hend : ∀ (r1 : Int32 × St) (H : Heap) (locs : List Loc) (pc : Nat) (ls : Array Slot), some r1 = some r → va_P D vwCl (cX cI A n r1.2 k g w z q) H → va_S AA s.heap H locs → decode cX4_risableHavingChanged pc = .ok (.ireturn, 1) → W p l e rm_X4_risableHavingChanged s m args below meth c H locs 0 0 Q (F0 m pc ls [.int r1.1]) := by
    intro r1 H locs pc ls e1 hP hS hd; cases e1; exact hend0 H locs pc ls hP hS hd
  clear hend0
  have hw0 : ∀ w ∈ wsX00, w ∈ wsX4_risableHavingChanged := by decide +kernel
  have hw4 : ∀ w ∈ wsX40, w ∈ wsX4_risableHavingChanged := by decide +kernel
  have k10 := hts (.fieldLink RX4 10 "AnchorsForConfession" "now" "LAnchorsForConfession$Harbour;") (by decide +kernel)
  have k16 := hts (.fieldLink RX4 16 "AnchorsForConfession" "thought" "LAnchorsForConfession$Harbour;") (by decide +kernel)
  have k86 := hts (.fieldLink RX4 86 "AnchorsForConfession$Harbour" "aboard" "[I") (by decide +kernel)
  replace hl : lv_has ls 3 [(0, .ref (A 0)), (1, .int p1), (2, .int p2)] := hl
  refine lv_aload_n hx hb dX4_risableHavingChanged_0 rfl (lv_at hl 0 rfl) ?_
  refine va_get (D := D) (ci := 4) (v := .ref (A 10)) (C := RX4) (T := TX4) (N := 8) hx hb hts hw4 hown hK hP 0 cX_at0 rfl 1 (by decide) k16 (fun _ h9 => h9) rfl dX4_risableHavingChanged_1 ?_
  refine lv_aload_n hx hb dX4_risableHavingChanged_4 rfl (lv_at hl 0 rfl) ?_
  refine va_get (D := D) (ci := 4) (v := .ref (A 1)) (C := RX4) (T := TX4) (N := 8) hx hb hts hw4 hown hK hP 0 cX_at0 rfl 0 (by decide) k10 (fun _ h9 => h9) rfl dX4_risableHavingChanged_5 ?_
  obtain ⟨a_1, ha_1, hf⟩ := bd_e hf
  refine Ct.callV (As := [.ref (A 1)]) (rest := []) (st1 := []) (c_X0_copyFrom l D cI (fun j => A (10 + j)) (fun j => A (1 + j)) t n a_1 ha_1) hx hb hml hown hts (cwV 1 hts gX4_risableHavingChanged_X0_copyFrom rfl rfl rfl hd_X0_copyFrom ⟨Nat.le_of_ble_eq_true rfl, Nat.le_of_ble_eq_true rfl⟩) (va_recv hK hP (ci := 0) (q0 := 10) rfl cX_at10) ln_X_HH_tn hA hK hP hD hS rfl hl.1 rfl rfl (Nat.le_of_ble_eq_true rfl) dX4_risableHavingChanged_8 (fun H locs hP hD hS => ?_)
  replace hP : va_P D vwCl (cX cI A n a_1 k g w z q) H := hP
  replace hD : va_D AA (cX cI A n a_1 k g w z q) := hD
  refine lv_aload_n hx hb dX4_risableHavingChanged_11 rfl (lv_at hl 0 rfl) ?_
  refine va_get (D := D) (ci := 4) (v := .ref (A 10)) (C := RX4) (T := TX4) (N := 8) hx hb hts hw4 hown hK hP 0 cX_at0 rfl 1 (by decide) k16 (fun _ h9 => h9) rfl dX4_risableHavingChanged_12 ?_
  refine va_get (D := D) (ci := 0) (v := .ref (A 17)) (C := RX0) (T := TX0) (N := 12) hx hb hts hw0 hown hK hP 10 cX_at10 rfl 8 (by decide) k86 (fun _ h9 => h9) rfl dX4_risableHavingChanged_15 ?_
  refine lv_iload_n hx hb dX4_risableHavingChanged_18 rfl (lv_at hl 1 rfl) ?_
  refine lv_aload_n hx hb dX4_risableHavingChanged_19 rfl (lv_at hl 0 rfl) ?_
  refine va_get (D := D) (ci := 4) (v := .ref (A 1)) (C := RX4) (T := TX4) (N := 8) hx hb hts hw4 hown hK hP 0 cX_at0 rfl 0 (by decide) k10 (fun _ h9 => h9) rfl dX4_risableHavingChanged_20 ?_
  refine va_get (D := D) (ci := 0) (v := .ref (A 8)) (C := RX0) (T := TX0) (N := 12) hx hb hts hw0 hown hK hP 1 cX_at1 rfl 8 (by decide) k86 (fun _ h9 => h9) rfl dX4_risableHavingChanged_23 ?_
  refine lv_iload_n hx hb dX4_risableHavingChanged_26 rfl (lv_at hl 2 rfl) ?_
  obtain ⟨c_2, hf⟩ := gi_e hf
  refine va_iald hx hb hK hP 8 0 cX_at8 rfl c_2 dX4_risableHavingChanged_27 ?_
  obtain ⟨c_3, hf⟩ := gi_e hf
  refine va_iast hx hb hK hP hD hS 17 0 cX_at17 rfl c_3 dX4_risableHavingChanged_28 (fun H locs hP hD hS => ?_)
  obtain ⟨h_4, eh_4, hf⟩ := nm_e hf
  rw [cX_su17, ← eh_4] at hP hD
  refine lv_aload_n hx hb dX4_risableHavingChanged_29 rfl (lv_at hl 0 rfl) ?_
  refine va_get (D := D) (ci := 4) (v := .ref (A 10)) (C := RX4) (T := TX4) (N := 8) hx hb hts hw4 hown hK hP 0 cX_at0 rfl 1 (by decide) k16 (fun _ h9 => h9) rfl dX4_risableHavingChanged_30 ?_
  refine va_get (D := D) (ci := 0) (v := .ref (A 17)) (C := RX0) (T := TX0) (N := 12) hx hb hts hw0 hown hK hP 10 cX_at10 rfl 8 (by decide) k86 (fun _ h9 => h9) rfl dX4_risableHavingChanged_33 ?_
  refine lv_iload_n hx hb dX4_risableHavingChanged_36 rfl (lv_at hl 2 rfl) ?_
  refine lv_aload_n hx hb dX4_risableHavingChanged_37 rfl (lv_at hl 0 rfl) ?_
  refine va_get (D := D) (ci := 4) (v := .ref (A 1)) (C := RX4) (T := TX4) (N := 8) hx hb hts hw4 hown hK hP 0 cX_at0 rfl 0 (by decide) k10 (fun _ h9 => h9) rfl dX4_risableHavingChanged_38 ?_
  refine va_get (D := D) (ci := 0) (v := .ref (A 8)) (C := RX0) (T := TX0) (N := 12) hx hb hts hw0 hown hK hP 1 cX_at1 rfl 8 (by decide) k86 (fun _ h9 => h9) rfl dX4_risableHavingChanged_41 ?_
  refine lv_iload_n hx hb dX4_risableHavingChanged_44 rfl (lv_at hl 1 rfl) ?_
  obtain ⟨c_5, hf⟩ := gi_e hf
  refine va_iald hx hb hK hP 8 0 cX_at8 rfl c_5 dX4_risableHavingChanged_45 ?_
  obtain ⟨c_6, hf⟩ := gi_e hf
  refine va_iast hx hb hK hP hD hS 17 0 cX_at17 rfl c_6 dX4_risableHavingChanged_46 (fun H locs hP hD hS => ?_)
  obtain ⟨h_7, eh_7, hf⟩ := nm_e hf
  rw [cX_su17, ← eh_7] at hP hD
  refine lv_aload_n hx hb dX4_risableHavingChanged_47 rfl (lv_at hl 0 rfl) ?_
  refine va_get (D := D) (ci := 4) (v := .ref (A 10)) (C := RX4) (T := TX4) (N := 8) hx hb hts hw4 hown hK hP 0 cX_at0 rfl 1 (by decide) k16 (fun _ h9 => h9) rfl dX4_risableHavingChanged_48 ?_
  obtain ⟨a_8, ha_8, hf⟩ := bd_e hf
  refine Ct.callV (As := []) (rest := []) (st1 := [.int a_8]) (c_X0_countRisable l D cI (fun j => A (10 + j)) h_7 a_8 ha_8) hx hb hml hown hts (cwV 0 hts gX4_risableHavingChanged_X0_countRisable rfl rfl rfl hd_X0_countRisable ⟨Nat.le_of_ble_eq_true rfl, Nat.le_of_ble_eq_true rfl⟩) (va_recv hK hP (ci := 0) (q0 := 10) rfl cX_at10) ln_X_H_t hA hK hP hD hS rfl hl.1 rfl rfl (Nat.le_of_ble_eq_true rfl) dX4_risableHavingChanged_51 (fun H locs hP hD hS => ?_)
  exact hend (a_8, h_7) H locs _ _ hf hP hS dX4_risableHavingChanged_54

def f_X4_deal (n : St) (t : St) (k : St) (g : St) (w : St) (z : St) (q : St) : Option (Int32 × St) := (bd (f_X0_countRisable n) fun a_1 => (lp (fun (nx13 : (Int32 × Int32 × Int32 × St) → Option (Int32 × St)) (q13 : Int32 × Int32 × Int32 × St) => (if (n 16 1) ≤ q13.2.2.1 then (some (q13.1, q13.2.2.2)) else (nm (q13.2.2.1 + (1 : Int32)) fun v_3 => (lp (fun (nx29 : (Int32 × Int32 × Int32 × St) → Option (Int32 × St)) (q29 : Int32 × Int32 × Int32 × St) => (if (n 16 1) ≤ q29.2.2.1 then (nm (q13.2.2.1 + (1 : Int32)) fun v_5 => (nx13 (q29.1, q29.2.1, v_5, q29.2.2.2))) else (bd (f_X4_risableHavingChanged n q29.2.2.2 k g w z q q13.2.2.1 q29.2.2.1) fun a_6 => (gi q13.2.2.1 8 (gi q29.2.2.1 8 (if (n 7 (q13.2.2.1).toNatClampNeg) = (n 7 (q29.2.2.1).toNatClampNeg) then (nm (q29.2.2.1 + (1 : Int32)) fun v_10 => (nx29 (q29.1, q29.2.1, v_10, a_6.2))) else (if a_6.1 ≤ q29.2.1 then (nm (q29.2.2.1 + (1 : Int32)) fun v_12 => (nx29 (q29.1, q29.2.1, v_12, a_6.2))) else (nm (((10 : Int32) * q13.2.2.1) + q29.2.2.1) fun v_13 => (nm (q29.2.2.1 + (1 : Int32)) fun v_14 => (nx29 (v_13, a_6.1, v_14, a_6.2))))))))))) 1000 (q13.1, q13.2.1, v_3, q13.2.2.2))))) 1000 ((-9 : Int32), a_1, (0 : Int32), t)))
def rm_X4_deal : Room := { frames := 6, cells := 0, slots := 0, locals := 132 }
theorem hd_X4_deal : yX4_deal.cls = RX4 ∧ yX4_deal.cls ≠ "java/lang/invoke/MethodHandle" ∧ yX4_deal.cls ≠ "java/lang/invoke/VarHandle" ∧ (parseMethodDescriptor yX4_deal.desc).map (fun d => d.parameters.length) = some 0 := by decide +kernel
set_option maxRecDepth 100000 in
set_option maxHeartbeats 4000000 in
theorem c_X4_deal (l : Launch) (D : va_G) (cI : ClassId) (A : Nat → Nat) (n : St) (t : St) (k : St) (g : St) (w : St) (z : St) (q : St) (r : Int32 × St) (hf : f_X4_deal n t k g w z q = some r) : Ct l yX4_deal wsX4_deal rm_X4_deal D cI (cX cI A n t k g w z q) (cX cI A n r.2 k g w z q) [.ref (A 0)] (some (.int r.1)) := by
  unfold f_X4_deal at hf
  refine Ct.ofI (cc := cX4_deal) (maxL := 6) (by decide +kernel) rfl (Nat.le_of_ble_eq_true rfl) ?_
  intro p e s m args below meth c AA Q H locs ls hx hb hml hown hts hA hK hP hD hS hl hend0
  have hend : ∀ (r1 : Int32 × St) (H : Heap) (locs : List Loc) (pc : Nat) (ls : Array Slot), some r1 = some r → va_P D vwCl (cX cI A n r1.2 k g w z q) H → va_S AA s.heap H locs → decode cX4_deal pc = .ok (.ireturn, 1) → W p l e rm_X4_deal s m args below meth c H locs 0 0 Q (F0 m pc ls [.int r1.1]) := by
    intro r1 H locs pc ls e1 hP hS hd; cases e1; exact hend0 H locs pc ls hP hS hd
  clear hend0
  have hw0 : ∀ w ∈ wsX00, w ∈ wsX4_deal := by decide +kernel
  have hw4 : ∀ w ∈ wsX40, w ∈ wsX4_deal := by decide +kernel
  have k10 := hts (.fieldLink RX4 10 "AnchorsForConfession" "now" "LAnchorsForConfession$Harbour;") (by decide +kernel)
  have k86 := hts (.fieldLink RX4 86 "AnchorsForConfession$Harbour" "aboard" "[I") (by decide +kernel)
  have k158 := hts (.fieldLink RX4 158 "AnchorsForConfession$Harbour" "men" "I") (by decide +kernel)
  replace hl : lv_has ls 6 [(0, .ref (A 0))] := hl
  refine lv_bipush (v := -9) hx hb dX4_deal_0 (by decide +kernel) ?_
  refine lv_istore_n (lv' := [(1, .int (-9 : Int32)), (0, .ref (A 0))]) hx hb dX4_deal_2 rfl hl (by decide) rfl (fun ls hl => ?_)
  refine lv_aload_n hx hb dX4_deal_3 rfl (lv_at hl 1 rfl) ?_
  refine va_get (D := D) (ci := 4) (v := .ref (A 1)) (C := RX4) (T := TX4) (N := 8) hx hb hts hw4 hown hK hP 0 cX_at0 rfl 0 (by decide) k10 (fun _ h9 => h9) rfl dX4_deal_4 ?_
  obtain ⟨a_1, ha_1, hf⟩ := bd_e hf
  refine Ct.callV (As := []) (rest := []) (st1 := [.int a_1]) (c_X0_countRisable l D cI (fun j => A (1 + j)) n a_1 ha_1) hx hb hml hown hts (cwV 0 hts gX4_deal_X0_countRisable rfl rfl rfl hd_X0_countRisable ⟨Nat.le_of_ble_eq_true rfl, Nat.le_of_ble_eq_true rfl⟩) (va_recv hK hP (ci := 0) (q0 := 1) rfl cX_at1) ln_X_H_n hA hK hP hD hS rfl hl.1 rfl rfl (Nat.le_of_ble_eq_true rfl) dX4_deal_7 (fun H locs hP hD hS => ?_)
  refine lv_istore_n (lv' := [(2, .int a_1), (1, .int (-9 : Int32)), (0, .ref (A 0))]) hx hb dX4_deal_10 rfl hl (by decide) rfl (fun ls hl => ?_)
  refine lv_iconst (v := 0) hx hb dX4_deal_11 (by decide) ?_
  refine lv_istore_n (lv' := [(3, .int (0 : Int32)), (2, .int a_1), (1, .int (-9 : Int32)), (0, .ref (A 0))]) hx hb dX4_deal_12 rfl hl (by decide) rfl (fun ls hl => ?_)
  refine lp_ind (P := fun (q13 : Int32 × Int32 × Int32 × St) => ∀ (H : Heap) (locs : List Loc) (ls : Array Slot), va_P D vwCl (cX cI A n q13.2.2.2 k g w z q) H → va_D AA (cX cI A n q13.2.2.2 k g w z q) → va_S AA s.heap H locs → lv_has ls 6 [(0, .ref (A 0)), (1, .int q13.1), (2, .int q13.2.1), (3, .int q13.2.2.1)] → W p l e rm_X4_deal s m args below meth c H locs 0 0 Q (F0 m 13 ls [])) hf ?_ H locs ls hP hD hS (lv_sub hl [3, 2, 1, 0] rfl)
  clear hf hP hD hS hl
  intro nx13 ih13 q13 hf H locs ls hP hD hS hl
  refine lv_iload_n hx hb dX4_deal_13 rfl (lv_at hl 3 rfl) ?_
  refine lv_aload_n hx hb dX4_deal_14 rfl (lv_at hl 0 rfl) ?_
  refine va_get (D := D) (ci := 4) (v := .ref (A 1)) (C := RX4) (T := TX4) (N := 8) hx hb hts hw4 hown hK hP 0 cX_at0 rfl 0 (by decide) k10 (fun _ h9 => h9) rfl dX4_deal_15 ?_
  refine va_get (D := D) (ci := 0) (v := .int (n 16 1)) (C := RX0) (T := TX0) (N := 12) hx hb hts hw0 hown hK hP 1 cX_at1 rfl 4 (by decide) k158 (fun _ h9 => h9) rfl dX4_deal_18 ?_
  refine lv_icmp_ge (tgt := 101) hx hb dX4_deal_21 (by decide) (fun c_2 => ?_) (fun c_2 => ?_)
  · replace hf := if_t c_2 hf
    refine lv_iload_n hx hb dX4_deal_101 rfl (lv_at hl 1 rfl) ?_
    exact hend (q13.1, q13.2.2.2) H locs _ _ hf hP hS dX4_deal_102
  · replace hf := if_f c_2 hf
    refine lv_iload_n hx hb dX4_deal_24 rfl (lv_at hl 3 rfl) ?_
    refine lv_iconst (v := 1) hx hb dX4_deal_25 (by decide) ?_
    refine lv_iadd hx hb dX4_deal_26 ?_
    refine lv_topi (fun v_3 ev_3 => ?_)
    replace hf := nm_at ev_3 hf
    refine lv_istore (lv' := [(4, .int v_3), (0, .ref (A 0)), (1, .int q13.1), (2, .int q13.2.1), (3, .int q13.2.2.1)]) hx hb dX4_deal_27 hl (by decide) rfl (fun ls hl => ?_)
    refine lp_ind (P := fun (q29 : Int32 × Int32 × Int32 × St) => ∀ (H : Heap) (locs : List Loc) (ls : Array Slot), va_P D vwCl (cX cI A n q29.2.2.2 k g w z q) H → va_D AA (cX cI A n q29.2.2.2 k g w z q) → va_S AA s.heap H locs → lv_has ls 6 [(0, .ref (A 0)), (1, .int q29.1), (2, .int q29.2.1), (3, .int q13.2.2.1), (4, .int q29.2.2.1)] → W p l e rm_X4_deal s m args below meth c H locs 0 0 Q (F0 m 29 ls [])) hf ?_ H locs ls hP hD hS (lv_sub hl [1, 2, 3, 4, 0] rfl)
    clear hf hP hD hS hl
    intro nx29 ih29 q29 hf H locs ls hP hD hS hl
    refine lv_iload hx hb dX4_deal_29 (lv_at hl 4 rfl) ?_
    refine lv_aload_n hx hb dX4_deal_31 rfl (lv_at hl 0 rfl) ?_
    refine va_get (D := D) (ci := 4) (v := .ref (A 1)) (C := RX4) (T := TX4) (N := 8) hx hb hts hw4 hown hK hP 0 cX_at0 rfl 0 (by decide) k10 (fun _ h9 => h9) rfl dX4_deal_32 ?_
    refine va_get (D := D) (ci := 0) (v := .int (n 16 1)) (C := RX0) (T := TX0) (N := 12) hx hb hts hw0 hown hK hP 1 cX_at1 rfl 4 (by decide) k158 (fun _ h9 => h9) rfl dX4_deal_35 ?_
    refine lv_icmp_ge (tgt := 95) hx hb dX4_deal_38 (by decide) (fun c_4 => ?_) (fun c_4 => ?_)
    · replace hf := if_t c_4 hf
      obtain ⟨v_5, ev_5, hf⟩ := nm_e hf
      refine lv_iinc (v := v_5) (lv' := [(3, .int v_5), (0, .ref (A 0)), (1, .int q29.1), (2, .int q29.2.1), (4, .int q29.2.2.1)]) hx hb dX4_deal_95 hl (k := 3) rfl (by rw [ev_5]; rfl) (by decide) rfl (fun ls hl => ?_)
      refine lv_goto (tgt := 13) hx hb dX4_deal_98 (by decide) ?_
      exact ih13 (q29.1, q29.2.1, v_5, q29.2.2.2) hf H locs ls hP hD hS (lv_sub hl [1, 2, 3, 0] rfl)
    · replace hf := if_f c_4 hf
      refine lv_aload_n hx hb dX4_deal_41 rfl (lv_at hl 0 rfl) ?_
      refine lv_iload_n hx hb dX4_deal_42 rfl (lv_at hl 3 rfl) ?_
      refine lv_iload hx hb dX4_deal_43 (lv_at hl 4 rfl) ?_
      obtain ⟨a_6, ha_6, hf⟩ := bd_e hf
      refine Ct.callV (As := [.int q13.2.2.1, .int q29.2.2.1]) (rest := []) (st1 := [.int a_6.1]) (c_X4_risableHavingChanged l D cI A n q29.2.2.2 k g w z q q13.2.2.1 q29.2.2.1 a_6 ha_6) hx hb hml hown hts (cwV 2 hts gX4_deal_X4_risableHavingChanged rfl rfl rfl hd_X4_risableHavingChanged ⟨Nat.le_of_ble_eq_true rfl, Nat.le_of_ble_eq_true rfl⟩) (va_recv hK hP (ci := 4) (q0 := 0) rfl cX_at0) (Ln.id rfl) hA hK hP hD hS rfl hl.1 rfl rfl (Nat.le_of_ble_eq_true rfl) dX4_deal_45 (fun H locs hP hD hS => ?_)
      replace hP : va_P D vwCl (cX cI A n a_6.2 k g w z q) H := hP
      replace hD : va_D AA (cX cI A n a_6.2 k g w z q) := hD
      refine lv_istore (lv' := [(5, .int a_6.1), (0, .ref (A 0)), (1, .int q29.1), (2, .int q29.2.1), (3, .int q13.2.2.1), (4, .int q29.2.2.1)]) hx hb dX4_deal_48 hl (by decide) rfl (fun ls hl => ?_)
      refine lv_aload_n hx hb dX4_deal_50 rfl (lv_at hl 1 rfl) ?_
      refine va_get (D := D) (ci := 4) (v := .ref (A 1)) (C := RX4) (T := TX4) (N := 8) hx hb hts hw4 hown hK hP 0 cX_at0 rfl 0 (by decide) k10 (fun _ h9 => h9) rfl dX4_deal_51 ?_
      refine va_get (D := D) (ci := 0) (v := .ref (A 8)) (C := RX0) (T := TX0) (N := 12) hx hb hts hw0 hown hK hP 1 cX_at1 rfl 8 (by decide) k86 (fun _ h9 => h9) rfl dX4_deal_54 ?_
      refine lv_iload_n hx hb dX4_deal_57 rfl (lv_at hl 4 rfl) ?_
      obtain ⟨c_7, hf⟩ := gi_e hf
      refine va_iald hx hb hK hP 8 0 cX_at8 rfl c_7 dX4_deal_58 ?_
      refine lv_aload_n hx hb dX4_deal_59 rfl (lv_at hl 1 rfl) ?_
      refine va_get (D := D) (ci := 4) (v := .ref (A 1)) (C := RX4) (T := TX4) (N := 8) hx hb hts hw4 hown hK hP 0 cX_at0 rfl 0 (by decide) k10 (fun _ h9 => h9) rfl dX4_deal_60 ?_
      refine va_get (D := D) (ci := 0) (v := .ref (A 8)) (C := RX0) (T := TX0) (N := 12) hx hb hts hw0 hown hK hP 1 cX_at1 rfl 8 (by decide) k86 (fun _ h9 => h9) rfl dX4_deal_63 ?_
      refine lv_iload hx hb dX4_deal_66 (lv_at hl 5 rfl) ?_
      obtain ⟨c_8, hf⟩ := gi_e hf
      refine va_iald hx hb hK hP 8 0 cX_at8 rfl c_8 dX4_deal_68 ?_
      refine lv_icmp_eq (tgt := 89) hx hb dX4_deal_69 (by decide) (fun c_9 => ?_) (fun c_9 => ?_)
      · replace hf := if_t c_9 hf
        obtain ⟨v_10, ev_10, hf⟩ := nm_e hf
        refine lv_iinc (v := v_10) (lv' := [(4, .int v_10), (5, .int a_6.1), (0, .ref (A 0)), (1, .int q29.1), (2, .int q29.2.1), (3, .int q13.2.2.1)]) hx hb dX4_deal_89 hl (k := 5) rfl (by rw [ev_10]; rfl) (by decide) rfl (fun ls hl => ?_)
        refine lv_goto (tgt := 29) hx hb dX4_deal_92 (by decide) ?_
        exact ih29 (q29.1, q29.2.1, v_10, a_6.2) hf H locs ls hP hD hS (lv_sub hl [2, 3, 4, 5, 0] rfl)
      · replace hf := if_f c_9 hf
        refine lv_iload hx hb dX4_deal_72 (lv_at hl 0 rfl) ?_
        refine lv_iload_n hx hb dX4_deal_74 rfl (lv_at hl 3 rfl) ?_
        refine lv_icmp_le (tgt := 89) hx hb dX4_deal_75 (by decide) (fun c_11 => ?_) (fun c_11 => ?_)
        · replace hf := if_t c_11 hf
          obtain ⟨v_12, ev_12, hf⟩ := nm_e hf
          refine lv_iinc (v := v_12) (lv' := [(4, .int v_12), (5, .int a_6.1), (0, .ref (A 0)), (1, .int q29.1), (2, .int q29.2.1), (3, .int q13.2.2.1)]) hx hb dX4_deal_89 hl (k := 5) rfl (by rw [ev_12]; rfl) (by decide) rfl (fun ls hl => ?_)
          refine lv_goto (tgt := 29) hx hb dX4_deal_92 (by decide) ?_
          exact ih29 (q29.1, q29.2.1, v_12, a_6.2) hf H locs ls hP hD hS (lv_sub hl [2, 3, 4, 5, 0] rfl)
        · replace hf := if_f c_11 hf
          refine lv_iload hx hb dX4_deal_78 (lv_at hl 0 rfl) ?_
          refine lv_istore_n (lv' := [(2, .int a_6.1), (5, .int a_6.1), (0, .ref (A 0)), (1, .int q29.1), (3, .int q13.2.2.1), (4, .int q29.2.2.1)]) hx hb dX4_deal_80 rfl hl (by decide) rfl (fun ls hl => ?_)
          refine lv_bipush (v := 10) hx hb dX4_deal_81 (by decide +kernel) ?_
          refine lv_iload_n hx hb dX4_deal_83 rfl (lv_at hl 4 rfl) ?_
          refine lv_imul hx hb dX4_deal_84 ?_
          refine lv_iload hx hb dX4_deal_85 (lv_at hl 5 rfl) ?_
          refine lv_iadd hx hb dX4_deal_87 ?_
          refine lv_topi (fun v_13 ev_13 => ?_)
          replace hf := nm_at ev_13 hf
          refine lv_istore_n (lv' := [(1, .int v_13), (2, .int a_6.1), (5, .int a_6.1), (0, .ref (A 0)), (3, .int q13.2.2.1), (4, .int q29.2.2.1)]) hx hb dX4_deal_88 rfl hl (by decide) rfl (fun ls hl => ?_)
          obtain ⟨v_14, ev_14, hf⟩ := nm_e hf
          refine lv_iinc (v := v_14) (lv' := [(4, .int v_14), (1, .int v_13), (2, .int a_6.1), (5, .int a_6.1), (0, .ref (A 0)), (3, .int q13.2.2.1)]) hx hb dX4_deal_89 hl (k := 5) rfl (by rw [ev_14]; rfl) (by decide) rfl (fun ls hl => ?_)
          refine lv_goto (tgt := 29) hx hb dX4_deal_92 (by decide) ?_
          exact ih29 (v_13, a_6.1, v_14, a_6.2) hf H locs ls hP hD hS (lv_sub hl [4, 1, 2, 5, 0] rfl)

def f_X4_hush (n : St) (t : St) (k : St) (g : St) (w : St) (z : St) (q : St) : Option (Int32) := (lp (fun (nx4 : (Int32 × Int32) → Option (Int32)) (q4 : Int32 × Int32) => (if (n 16 1) ≤ q4.2 then (some q4.1) else (gi q4.2 8 (nm (n 7 (q4.2).toNatClampNeg) fun v_3 => (bd (f_X0_canRise n v_3) fun a_4 => (if a_4 = 0 then (nm (q4.2 + (1 : Int32)) fun v_6 => (nx4 (q4.1, v_6))) else (bd (f_X0_pool n v_3) fun a_7 => (gi q4.2 8 (bd (f_X0_worth n q4.2) fun a_9 => (bd (f_X0_lacks n v_3) fun a_10 => (if a_10 ≤ (a_7 - ((n 6 (q4.2).toNatClampNeg) * a_9)) then (nm (q4.2 + (1 : Int32)) fun v_12 => (nx4 (q4.1, v_12))) else (nm (q4.1 ||| ((1 : Int32) <<< (q4.2 &&& 31))) fun v_13 => (nm (q4.2 + (1 : Int32)) fun v_14 => (nx4 (v_13, v_14))))))))))))))) 1000 ((0 : Int32), (0 : Int32)))
def rm_X4_hush : Room := { frames := 4, cells := 0, slots := 0, locals := 88 }
theorem hd_X4_hush : yX4_hush.cls = RX4 ∧ yX4_hush.cls ≠ "java/lang/invoke/MethodHandle" ∧ yX4_hush.cls ≠ "java/lang/invoke/VarHandle" ∧ (parseMethodDescriptor yX4_hush.desc).map (fun d => d.parameters.length) = some 0 := by decide +kernel
set_option maxRecDepth 100000 in
set_option maxHeartbeats 4000000 in
theorem c_X4_hush (l : Launch) (D : va_G) (cI : ClassId) (A : Nat → Nat) (n : St) (t : St) (k : St) (g : St) (w : St) (z : St) (q : St) (r : Int32) (hf : f_X4_hush n t k g w z q = some r) : Ct l yX4_hush wsX4_hush rm_X4_hush D cI (cX cI A n t k g w z q) (cX cI A n t k g w z q) [.ref (A 0)] (some (.int r)) := by
  unfold f_X4_hush at hf
  refine Ct.ofI (cc := cX4_hush) (maxL := 4) (by decide +kernel) rfl (Nat.le_of_ble_eq_true rfl) ?_
  intro p e s m args below meth c AA Q H locs ls hx hb hml hown hts hA hK hP hD hS hl hend0
  have hend : ∀ (r1 : Int32) (H : Heap) (locs : List Loc) (pc : Nat) (ls : Array Slot), some r1 = some r → va_P D vwCl (cX cI A n t k g w z q) H → va_S AA s.heap H locs → decode cX4_hush pc = .ok (.ireturn, 1) → W p l e rm_X4_hush s m args below meth c H locs 0 0 Q (F0 m pc ls [.int r1]) := by
    intro r1 H locs pc ls e1 hP hS hd; cases e1; exact hend0 H locs pc ls hP hS hd
  clear hend0
  have hw0 : ∀ w ∈ wsX00, w ∈ wsX4_hush := by decide +kernel
  have hw4 : ∀ w ∈ wsX40, w ∈ wsX4_hush := by decide +kernel
  have k10 := hts (.fieldLink RX4 10 "AnchorsForConfession" "now" "LAnchorsForConfession$Harbour;") (by decide +kernel)
  have k86 := hts (.fieldLink RX4 86 "AnchorsForConfession$Harbour" "aboard" "[I") (by decide +kernel)
  have k89 := hts (.fieldLink RX4 89 "AnchorsForConfession$Harbour" "sinsOf" "[I") (by decide +kernel)
  have k158 := hts (.fieldLink RX4 158 "AnchorsForConfession$Harbour" "men" "I") (by decide +kernel)
  replace hl : lv_has ls 4 [(0, .ref (A 0))] := hl
  refine lv_iconst (v := 0) hx hb dX4_hush_0 (by decide) ?_
  refine lv_istore_n (lv' := [(1, .int (0 : Int32)), (0, .ref (A 0))]) hx hb dX4_hush_1 rfl hl (by decide) rfl (fun ls hl => ?_)
  refine lv_iconst (v := 0) hx hb dX4_hush_2 (by decide) ?_
  refine lv_istore_n (lv' := [(2, .int (0 : Int32)), (1, .int (0 : Int32)), (0, .ref (A 0))]) hx hb dX4_hush_3 rfl hl (by decide) rfl (fun ls hl => ?_)
  refine lp_ind (P := fun (q4 : Int32 × Int32) => ∀ (H : Heap) (locs : List Loc) (ls : Array Slot), va_P D vwCl (cX cI A n t k g w z q) H → va_D AA (cX cI A n t k g w z q) → va_S AA s.heap H locs → lv_has ls 4 [(0, .ref (A 0)), (1, .int q4.1), (2, .int q4.2)] → W p l e rm_X4_hush s m args below meth c H locs 0 0 Q (F0 m 4 ls [])) hf ?_ H locs ls hP hD hS (lv_sub hl [2, 1, 0] rfl)
  clear hf hP hD hS hl
  intro nx4 ih4 q4 hf H locs ls hP hD hS hl
  refine lv_iload_n hx hb dX4_hush_4 rfl (lv_at hl 2 rfl) ?_
  refine lv_aload_n hx hb dX4_hush_5 rfl (lv_at hl 0 rfl) ?_
  refine va_get (D := D) (ci := 4) (v := .ref (A 1)) (C := RX4) (T := TX4) (N := 8) hx hb hts hw4 hown hK hP 0 cX_at0 rfl 0 (by decide) k10 (fun _ h9 => h9) rfl dX4_hush_6 ?_
  refine va_get (D := D) (ci := 0) (v := .int (n 16 1)) (C := RX0) (T := TX0) (N := 12) hx hb hts hw0 hown hK hP 1 cX_at1 rfl 4 (by decide) k158 (fun _ h9 => h9) rfl dX4_hush_9 ?_
  refine lv_icmp_ge (tgt := 86) hx hb dX4_hush_12 (by decide) (fun c_1 => ?_) (fun c_1 => ?_)
  · replace hf := if_t c_1 hf
    refine lv_iload_n hx hb dX4_hush_86 rfl (lv_at hl 1 rfl) ?_
    exact hend q4.1 H locs _ _ hf hP hS dX4_hush_87
  · replace hf := if_f c_1 hf
    refine lv_aload_n hx hb dX4_hush_15 rfl (lv_at hl 0 rfl) ?_
    refine va_get (D := D) (ci := 4) (v := .ref (A 1)) (C := RX4) (T := TX4) (N := 8) hx hb hts hw4 hown hK hP 0 cX_at0 rfl 0 (by decide) k10 (fun _ h9 => h9) rfl dX4_hush_16 ?_
    refine va_get (D := D) (ci := 0) (v := .ref (A 8)) (C := RX0) (T := TX0) (N := 12) hx hb hts hw0 hown hK hP 1 cX_at1 rfl 8 (by decide) k86 (fun _ h9 => h9) rfl dX4_hush_19 ?_
    refine lv_iload_n hx hb dX4_hush_22 rfl (lv_at hl 2 rfl) ?_
    obtain ⟨c_2, hf⟩ := gi_e hf
    refine va_iald hx hb hK hP 8 0 cX_at8 rfl c_2 dX4_hush_23 ?_
    refine lv_topi (fun v_3 ev_3 => ?_)
    replace hf := nm_at ev_3 hf
    refine lv_istore_n (lv' := [(3, .int v_3), (0, .ref (A 0)), (1, .int q4.1), (2, .int q4.2)]) hx hb dX4_hush_24 rfl hl (by decide) rfl (fun ls hl => ?_)
    refine lv_aload_n hx hb dX4_hush_25 rfl (lv_at hl 1 rfl) ?_
    refine va_get (D := D) (ci := 4) (v := .ref (A 1)) (C := RX4) (T := TX4) (N := 8) hx hb hts hw4 hown hK hP 0 cX_at0 rfl 0 (by decide) k10 (fun _ h9 => h9) rfl dX4_hush_26 ?_
    refine lv_iload_n hx hb dX4_hush_29 rfl (lv_at hl 0 rfl) ?_
    obtain ⟨a_4, ha_4, hf⟩ := bd_e hf
    refine Ct.callV (As := [.int v_3]) (rest := []) (st1 := [.int a_4]) (c_X0_canRise l D cI (fun j => A (1 + j)) n v_3 a_4 ha_4) hx hb hml hown hts (cwV 1 hts gX4_hush_X0_canRise rfl rfl rfl hd_X0_canRise ⟨Nat.le_of_ble_eq_true rfl, Nat.le_of_ble_eq_true rfl⟩) (va_recv hK hP (ci := 0) (q0 := 1) rfl cX_at1) ln_X_H_n hA hK hP hD hS rfl hl.1 rfl rfl (Nat.le_of_ble_eq_true rfl) dX4_hush_30 (fun H locs hP hD hS => ?_)
    refine lv_if_eq (tgt := 80) hx hb dX4_hush_33 (by decide) (fun c_5 => ?_) (fun c_5 => ?_)
    · replace hf := if_t c_5 hf
      obtain ⟨v_6, ev_6, hf⟩ := nm_e hf
      refine lv_iinc (v := v_6) (lv' := [(2, .int v_6), (3, .int v_3), (0, .ref (A 0)), (1, .int q4.1)]) hx hb dX4_hush_80 hl (k := 3) rfl (by rw [ev_6]; rfl) (by decide) rfl (fun ls hl => ?_)
      refine lv_goto (tgt := 4) hx hb dX4_hush_83 (by decide) ?_
      exact ih4 (q4.1, v_6) hf H locs ls hP hD hS (lv_sub hl [2, 3, 0] rfl)
    · replace hf := if_f c_5 hf
      refine lv_aload_n hx hb dX4_hush_36 rfl (lv_at hl 1 rfl) ?_
      refine va_get (D := D) (ci := 4) (v := .ref (A 1)) (C := RX4) (T := TX4) (N := 8) hx hb hts hw4 hown hK hP 0 cX_at0 rfl 0 (by decide) k10 (fun _ h9 => h9) rfl dX4_hush_37 ?_
      refine lv_iload_n hx hb dX4_hush_40 rfl (lv_at hl 0 rfl) ?_
      obtain ⟨a_7, ha_7, hf⟩ := bd_e hf
      refine Ct.callV (As := [.int v_3]) (rest := []) (st1 := [.int a_7]) (c_X0_pool l D cI (fun j => A (1 + j)) n v_3 a_7 ha_7) hx hb hml hown hts (cwV 1 hts gX4_hush_X0_pool rfl rfl rfl hd_X0_pool ⟨Nat.le_of_ble_eq_true rfl, Nat.le_of_ble_eq_true rfl⟩) (va_recv hK hP (ci := 0) (q0 := 1) rfl cX_at1) ln_X_H_n hA hK hP hD hS rfl hl.1 rfl rfl (Nat.le_of_ble_eq_true rfl) dX4_hush_41 (fun H locs hP hD hS => ?_)
      refine lv_aload_n hx hb dX4_hush_44 rfl (lv_at hl 1 rfl) ?_
      refine va_get (D := D) (ci := 4) (v := .ref (A 1)) (C := RX4) (T := TX4) (N := 8) hx hb hts hw4 hown hK hP 0 cX_at0 rfl 0 (by decide) k10 (fun _ h9 => h9) rfl dX4_hush_45 ?_
      refine va_get (D := D) (ci := 0) (v := .ref (A 7)) (C := RX0) (T := TX0) (N := 12) hx hb hts hw0 hown hK hP 1 cX_at1 rfl 7 (by decide) k89 (fun _ h9 => h9) rfl dX4_hush_48 ?_
      refine lv_iload_n hx hb dX4_hush_51 rfl (lv_at hl 3 rfl) ?_
      obtain ⟨c_8, hf⟩ := gi_e hf
      refine va_iald hx hb hK hP 7 0 cX_at7 rfl c_8 dX4_hush_52 ?_
      refine lv_aload_n hx hb dX4_hush_53 rfl (lv_at hl 1 rfl) ?_
      refine va_get (D := D) (ci := 4) (v := .ref (A 1)) (C := RX4) (T := TX4) (N := 8) hx hb hts hw4 hown hK hP 0 cX_at0 rfl 0 (by decide) k10 (fun _ h9 => h9) rfl dX4_hush_54 ?_
      refine lv_iload_n hx hb dX4_hush_57 rfl (lv_at hl 3 rfl) ?_
      obtain ⟨a_9, ha_9, hf⟩ := bd_e hf
      refine Ct.callV (As := [.int q4.2]) (rest := [.int (n 6 (q4.2).toNatClampNeg), .int a_7]) (st1 := [.int a_9, .int (n 6 (q4.2).toNatClampNeg), .int a_7]) (c_X0_worth l D cI (fun j => A (1 + j)) n q4.2 a_9 ha_9) hx hb hml hown hts (cwV 1 hts gX4_hush_X0_worth rfl rfl rfl hd_X0_worth ⟨Nat.le_of_ble_eq_true rfl, Nat.le_of_ble_eq_true rfl⟩) (va_recv hK hP (ci := 0) (q0 := 1) rfl cX_at1) ln_X_H_n hA hK hP hD hS rfl hl.1 rfl rfl (Nat.le_of_ble_eq_true rfl) dX4_hush_58 (fun H locs hP hD hS => ?_)
      refine lv_imul hx hb dX4_hush_61 ?_
      refine lv_isub hx hb dX4_hush_62 ?_
      refine lv_aload_n hx hb dX4_hush_63 rfl (lv_at hl 1 rfl) ?_
      refine va_get (D := D) (ci := 4) (v := .ref (A 1)) (C := RX4) (T := TX4) (N := 8) hx hb hts hw4 hown hK hP 0 cX_at0 rfl 0 (by decide) k10 (fun _ h9 => h9) rfl dX4_hush_64 ?_
      refine lv_iload_n hx hb dX4_hush_67 rfl (lv_at hl 0 rfl) ?_
      obtain ⟨a_10, ha_10, hf⟩ := bd_e hf
      refine Ct.callV (As := [.int v_3]) (rest := [.int (a_7 - ((n 6 (q4.2).toNatClampNeg) * a_9))]) (st1 := [.int a_10, .int (a_7 - ((n 6 (q4.2).toNatClampNeg) * a_9))]) (c_X0_lacks l D cI (fun j => A (1 + j)) n v_3 a_10 ha_10) hx hb hml hown hts (cwV 1 hts gX4_hush_X0_lacks rfl rfl rfl hd_X0_lacks ⟨Nat.le_of_ble_eq_true rfl, Nat.le_of_ble_eq_true rfl⟩) (va_recv hK hP (ci := 0) (q0 := 1) rfl cX_at1) ln_X_H_n hA hK hP hD hS rfl hl.1 rfl rfl (Nat.le_of_ble_eq_true rfl) dX4_hush_68 (fun H locs hP hD hS => ?_)
      refine lv_icmp_ge (tgt := 80) hx hb dX4_hush_71 (by decide) (fun c_11 => ?_) (fun c_11 => ?_)
      · replace hf := if_t c_11 hf
        obtain ⟨v_12, ev_12, hf⟩ := nm_e hf
        refine lv_iinc (v := v_12) (lv' := [(2, .int v_12), (3, .int v_3), (0, .ref (A 0)), (1, .int q4.1)]) hx hb dX4_hush_80 hl (k := 3) rfl (by rw [ev_12]; rfl) (by decide) rfl (fun ls hl => ?_)
        refine lv_goto (tgt := 4) hx hb dX4_hush_83 (by decide) ?_
        exact ih4 (q4.1, v_12) hf H locs ls hP hD hS (lv_sub hl [2, 3, 0] rfl)
      · replace hf := if_f c_11 hf
        refine lv_iload_n hx hb dX4_hush_74 rfl (lv_at hl 2 rfl) ?_
        refine lv_iconst (v := 1) hx hb dX4_hush_75 (by decide) ?_
        refine lv_iload_n hx hb dX4_hush_76 rfl (lv_at hl 3 rfl) ?_
        refine lv_ishl hx hb dX4_hush_77 ?_
        refine lv_ior hx hb dX4_hush_78 ?_
        refine lv_topi (fun v_13 ev_13 => ?_)
        replace hf := nm_at ev_13 hf
        refine lv_istore_n (lv' := [(1, .int v_13), (3, .int v_3), (0, .ref (A 0)), (2, .int q4.2)]) hx hb dX4_hush_79 rfl hl (by decide) rfl (fun ls hl => ?_)
        obtain ⟨v_14, ev_14, hf⟩ := nm_e hf
        refine lv_iinc (v := v_14) (lv' := [(2, .int v_14), (1, .int v_13), (3, .int v_3), (0, .ref (A 0))]) hx hb dX4_hush_80 hl (k := 3) rfl (by rw [ev_14]; rfl) (by decide) rfl (fun ls hl => ?_)
        refine lv_goto (tgt := 4) hx hb dX4_hush_83 (by decide) ?_
        exact ih4 (v_13, v_14) hf H locs ls hP hD hS (lv_sub hl [3, 1, 0] rfl)

def f_X4_loudest (n : St) (t : St) (k : St) (g : St) (w : St) (z : St) (q : St) (p1 : Int32) : Option (Int32 × St × St) := (if p1 = 0 then (lp (fun (nx25 : (Int32 × Int32 × Int32 × St) → Option (Int32 × St × St)) (q25 : Int32 × Int32 × Int32 × St) => (if (n 16 1) ≤ q25.2.2.1 then (if p1 = 0 then (some (q25.1, q25.2.2.2, q)) else (some (q25.2.1, q25.2.2.2, q))) else (bd (f_X0_copyFrom q25.2.2.2 n) fun a_4 => (bd (f_X0_canTell a_4 q25.2.2.1) fun a_5 => (if a_5 = 0 then (if (-9 : Int32) ≤ q25.2.1 then (nm (q25.2.2.1 + (1 : Int32)) fun v_8 => (nx25 (q25.1, q25.2.1, v_8, a_4))) else (nm (q25.2.2.1 + (1 : Int32)) fun v_9 => (nx25 (q25.2.2.1, (-9 : Int32), v_9, a_4)))) else (bd (f_X0_word a_4 q25.2.2.1) fun a_10 => (if a_10.1 ≤ q25.2.1 then (nm (q25.2.2.1 + (1 : Int32)) fun v_12 => (nx25 (q25.1, q25.2.1, v_12, a_10.2))) else (nm (q25.2.2.1 + (1 : Int32)) fun v_13 => (nx25 (q25.2.2.1, a_10.1, v_13, a_10.2)))))))))) 1000 ((-9 : Int32), (-9 : Int32), (0 : Int32), t)) else (if p1 = (1 : Int32) then (lp (fun (nx25 : (Int32 × Int32 × Int32 × St) → Option (Int32 × St × St)) (q25 : Int32 × Int32 × Int32 × St) => (if (n 16 1) ≤ q25.2.2.1 then (if p1 = 0 then (some (q25.1, q25.2.2.2, q)) else (some (q25.2.1, q25.2.2.2, q))) else (bd (f_X0_copyFrom q25.2.2.2 n) fun a_17 => (bd (f_X0_canTell a_17 q25.2.2.1) fun a_18 => (if a_18 = 0 then (if (-9 : Int32) ≤ q25.2.1 then (nm (q25.2.2.1 + (1 : Int32)) fun v_21 => (nx25 (q25.1, q25.2.1, v_21, a_17))) else (nm (q25.2.2.1 + (1 : Int32)) fun v_22 => (nx25 (q25.2.2.1, (-9 : Int32), v_22, a_17)))) else (bd (f_X0_word a_17 q25.2.2.1) fun a_23 => (if a_23.1 ≤ q25.2.1 then (nm (q25.2.2.1 + (1 : Int32)) fun v_25 => (nx25 (q25.1, q25.2.1, v_25, a_23.2))) else (nm (q25.2.2.1 + (1 : Int32)) fun v_26 => (nx25 (q25.2.2.1, a_23.1, v_26, a_23.2)))))))))) 1000 ((-9 : Int32), (-9 : Int32), (0 : Int32), t)) else (bd (f_X4_refused n t k g w z q (-2 : Int32)) fun a_27 => (some (a_27.1, t, a_27.2)))))
def rm_X4_loudest : Room := { frames := 4, cells := 0, slots := 0, locals := 89 }
theorem hd_X4_loudest : yX4_loudest.cls = RX4 ∧ yX4_loudest.cls ≠ "java/lang/invoke/MethodHandle" ∧ yX4_loudest.cls ≠ "java/lang/invoke/VarHandle" ∧ (parseMethodDescriptor yX4_loudest.desc).map (fun d => d.parameters.length) = some 1 := by decide +kernel
set_option maxRecDepth 100000 in
set_option maxHeartbeats 4000000 in
theorem c_X4_loudest (l : Launch) (D : va_G) (cI : ClassId) (A : Nat → Nat) (n : St) (t : St) (k : St) (g : St) (w : St) (z : St) (q : St) (p1 : Int32) (r : Int32 × St × St) (hf : f_X4_loudest n t k g w z q p1 = some r) : Ct l yX4_loudest wsX4_loudest rm_X4_loudest D cI (cX cI A n t k g w z q) (cX cI A n r.2.1 k g w z r.2.2) [.ref (A 0), .int p1] (some (.int r.1)) := by
  unfold f_X4_loudest at hf
  refine Ct.ofI (cc := cX4_loudest) (maxL := 6) (by decide +kernel) rfl (Nat.le_of_ble_eq_true rfl) ?_
  intro p e s m args below meth c AA Q H locs ls hx hb hml hown hts hA hK hP hD hS hl hend0
  have hend : ∀ (r1 : Int32 × St × St) (H : Heap) (locs : List Loc) (pc : Nat) (ls : Array Slot), some r1 = some r → va_P D vwCl (cX cI A n r1.2.1 k g w z r1.2.2) H → va_S AA s.heap H locs → decode cX4_loudest pc = .ok (.ireturn, 1) → W p l e rm_X4_loudest s m args below meth c H locs 0 0 Q (F0 m pc ls [.int r1.1]) := by
    intro r1 H locs pc ls e1 hP hS hd; cases e1; exact hend0 H locs pc ls hP hS hd
  clear hend0
  have hw0 : ∀ w ∈ wsX00, w ∈ wsX4_loudest := by decide +kernel
  have hw4 : ∀ w ∈ wsX40, w ∈ wsX4_loudest := by decide +kernel
  have k10 := hts (.fieldLink RX4 10 "AnchorsForConfession" "now" "LAnchorsForConfession$Harbour;") (by decide +kernel)
  have k16 := hts (.fieldLink RX4 16 "AnchorsForConfession" "thought" "LAnchorsForConfession$Harbour;") (by decide +kernel)
  have k158 := hts (.fieldLink RX4 158 "AnchorsForConfession$Harbour" "men" "I") (by decide +kernel)
  replace hl : lv_has ls 6 [(0, .ref (A 0)), (1, .int p1)] := hl
  refine lv_iload_n hx hb dX4_loudest_0 rfl (lv_at hl 1 rfl) ?_
  refine lv_if_eq (tgt := 16) hx hb dX4_loudest_1 (by decide) (fun c_1 => ?_) (fun c_1 => ?_)
  · replace hf := if_t c_1 hf
    refine lv_bipush (v := -9) hx hb dX4_loudest_16 (by decide +kernel) ?_
    refine lv_istore_n (lv' := [(2, .int (-9 : Int32)), (0, .ref (A 0)), (1, .int p1)]) hx hb dX4_loudest_18 rfl hl (by decide) rfl (fun ls hl => ?_)
    refine lv_bipush (v := -9) hx hb dX4_loudest_19 (by decide +kernel) ?_
    refine lv_istore_n (lv' := [(3, .int (-9 : Int32)), (2, .int (-9 : Int32)), (0, .ref (A 0)), (1, .int p1)]) hx hb dX4_loudest_21 rfl hl (by decide) rfl (fun ls hl => ?_)
    refine lv_iconst (v := 0) hx hb dX4_loudest_22 (by decide) ?_
    refine lv_istore (lv' := [(4, .int (0 : Int32)), (3, .int (-9 : Int32)), (2, .int (-9 : Int32)), (0, .ref (A 0)), (1, .int p1)]) hx hb dX4_loudest_23 hl (by decide) rfl (fun ls hl => ?_)
    refine lp_ind (P := fun (q25 : Int32 × Int32 × Int32 × St) => ∀ (H : Heap) (locs : List Loc) (ls : Array Slot), va_P D vwCl (cX cI A n q25.2.2.2 k g w z q) H → va_D AA (cX cI A n q25.2.2.2 k g w z q) → va_S AA s.heap H locs → lv_has ls 6 [(0, .ref (A 0)), (1, .int p1), (2, .int q25.1), (3, .int q25.2.1), (4, .int q25.2.2.1)] → W p l e rm_X4_loudest s m args below meth c H locs 0 0 Q (F0 m 25 ls [])) hf ?_ H locs ls hP hD hS (lv_sub hl [3, 4, 2, 1, 0] rfl)
    clear hf hP hD hS hl
    intro nx25 ih25 q25 hf H locs ls hP hD hS hl
    refine lv_iload hx hb dX4_loudest_25 (lv_at hl 4 rfl) ?_
    refine lv_aload_n hx hb dX4_loudest_27 rfl (lv_at hl 0 rfl) ?_
    refine va_get (D := D) (ci := 4) (v := .ref (A 1)) (C := RX4) (T := TX4) (N := 8) hx hb hts hw4 hown hK hP 0 cX_at0 rfl 0 (by decide) k10 (fun _ h9 => h9) rfl dX4_loudest_28 ?_
    refine va_get (D := D) (ci := 0) (v := .int (n 16 1)) (C := RX0) (T := TX0) (N := 12) hx hb hts hw0 hown hK hP 1 cX_at1 rfl 4 (by decide) k158 (fun _ h9 => h9) rfl dX4_loudest_31 ?_
    refine lv_icmp_ge (tgt := 94) hx hb dX4_loudest_34 (by decide) (fun c_2 => ?_) (fun c_2 => ?_)
    · replace hf := if_t c_2 hf
      refine lv_iload_n hx hb dX4_loudest_94 rfl (lv_at hl 1 rfl) ?_
      refine lv_if_ne (tgt := 102) hx hb dX4_loudest_95 (by decide) (fun c_3 => ?_) (fun c_3 => ?_)
      · replace hf := if_f c_3 hf
        refine lv_iload_n hx hb dX4_loudest_102 rfl (lv_at hl 3 rfl) ?_
        exact hend (q25.2.1, q25.2.2.2, q) H locs _ _ hf hP hS dX4_loudest_103
      · replace hf := if_t c_3 hf
        refine lv_iload_n hx hb dX4_loudest_98 rfl (lv_at hl 2 rfl) ?_
        refine lv_goto (tgt := 103) hx hb dX4_loudest_99 (by decide) ?_
        exact hend (q25.1, q25.2.2.2, q) H locs _ _ hf hP hS dX4_loudest_103
    · replace hf := if_f c_2 hf
      refine lv_aload_n hx hb dX4_loudest_37 rfl (lv_at hl 0 rfl) ?_
      refine va_get (D := D) (ci := 4) (v := .ref (A 10)) (C := RX4) (T := TX4) (N := 8) hx hb hts hw4 hown hK hP 0 cX_at0 rfl 1 (by decide) k16 (fun _ h9 => h9) rfl dX4_loudest_38 ?_
      refine lv_aload_n hx hb dX4_loudest_41 rfl (lv_at hl 0 rfl) ?_
      refine va_get (D := D) (ci := 4) (v := .ref (A 1)) (C := RX4) (T := TX4) (N := 8) hx hb hts hw4 hown hK hP 0 cX_at0 rfl 0 (by decide) k10 (fun _ h9 => h9) rfl dX4_loudest_42 ?_
      obtain ⟨a_4, ha_4, hf⟩ := bd_e hf
      refine Ct.callV (As := [.ref (A 1)]) (rest := []) (st1 := []) (c_X0_copyFrom l D cI (fun j => A (10 + j)) (fun j => A (1 + j)) q25.2.2.2 n a_4 ha_4) hx hb hml hown hts (cwV 1 hts gX4_loudest_X0_copyFrom rfl rfl rfl hd_X0_copyFrom ⟨Nat.le_of_ble_eq_true rfl, Nat.le_of_ble_eq_true rfl⟩) (va_recv hK hP (ci := 0) (q0 := 10) rfl cX_at10) ln_X_HH_tn hA hK hP hD hS rfl hl.1 rfl rfl (Nat.le_of_ble_eq_true rfl) dX4_loudest_45 (fun H locs hP hD hS => ?_)
      replace hP : va_P D vwCl (cX cI A n a_4 k g w z q) H := hP
      replace hD : va_D AA (cX cI A n a_4 k g w z q) := hD
      refine lv_aload_n hx hb dX4_loudest_48 rfl (lv_at hl 0 rfl) ?_
      refine va_get (D := D) (ci := 4) (v := .ref (A 10)) (C := RX4) (T := TX4) (N := 8) hx hb hts hw4 hown hK hP 0 cX_at0 rfl 1 (by decide) k16 (fun _ h9 => h9) rfl dX4_loudest_49 ?_
      refine lv_iload hx hb dX4_loudest_52 (lv_at hl 4 rfl) ?_
      obtain ⟨a_5, ha_5, hf⟩ := bd_e hf
      refine Ct.callV (As := [.int q25.2.2.1]) (rest := []) (st1 := [.int a_5]) (c_X0_canTell l D cI (fun j => A (10 + j)) a_4 q25.2.2.1 a_5 ha_5) hx hb hml hown hts (cwV 1 hts gX4_loudest_X0_canTell rfl rfl rfl hd_X0_canTell ⟨Nat.le_of_ble_eq_true rfl, Nat.le_of_ble_eq_true rfl⟩) (va_recv hK hP (ci := 0) (q0 := 10) rfl cX_at10) ln_X_H_t hA hK hP hD hS rfl hl.1 rfl rfl (Nat.le_of_ble_eq_true rfl) dX4_loudest_54 (fun H locs hP hD hS => ?_)
      refine lv_if_eq (tgt := 72) hx hb dX4_loudest_57 (by decide) (fun c_6 => ?_) (fun c_6 => ?_)
      · replace hf := if_t c_6 hf
        refine lv_bipush (v := -9) hx hb dX4_loudest_72 (by decide +kernel) ?_
        refine lv_istore (lv' := [(5, .int (-9 : Int32)), (0, .ref (A 0)), (1, .int p1), (2, .int q25.1), (3, .int q25.2.1), (4, .int q25.2.2.1)]) hx hb dX4_loudest_74 hl (by decide) rfl (fun ls hl => ?_)
        refine lv_iload hx hb dX4_loudest_76 (lv_at hl 0 rfl) ?_
        refine lv_iload_n hx hb dX4_loudest_78 rfl (lv_at hl 4 rfl) ?_
        refine lv_icmp_le (tgt := 88) hx hb dX4_loudest_79 (by decide) (fun c_7 => ?_) (fun c_7 => ?_)
        · replace hf := if_t c_7 hf
          obtain ⟨v_8, ev_8, hf⟩ := nm_e hf
          refine lv_iinc (v := v_8) (lv' := [(4, .int v_8), (5, .int (-9 : Int32)), (0, .ref (A 0)), (1, .int p1), (2, .int q25.1), (3, .int q25.2.1)]) hx hb dX4_loudest_88 hl (k := 5) rfl (by rw [ev_8]; rfl) (by decide) rfl (fun ls hl => ?_)
          refine lv_goto (tgt := 25) hx hb dX4_loudest_91 (by decide) ?_
          exact ih25 (q25.1, q25.2.1, v_8, a_4) hf H locs ls hP hD hS (lv_sub hl [2, 3, 4, 5, 0] rfl)
        · replace hf := if_f c_7 hf
          refine lv_iload hx hb dX4_loudest_82 (lv_at hl 0 rfl) ?_
          refine lv_istore_n (lv' := [(3, .int (-9 : Int32)), (5, .int (-9 : Int32)), (0, .ref (A 0)), (1, .int p1), (2, .int q25.1), (4, .int q25.2.2.1)]) hx hb dX4_loudest_84 rfl hl (by decide) rfl (fun ls hl => ?_)
          refine lv_iload hx hb dX4_loudest_85 (lv_at hl 5 rfl) ?_
          refine lv_istore_n (lv' := [(2, .int q25.2.2.1), (3, .int (-9 : Int32)), (5, .int (-9 : Int32)), (0, .ref (A 0)), (1, .int p1), (4, .int q25.2.2.1)]) hx hb dX4_loudest_87 rfl hl (by decide) rfl (fun ls hl => ?_)
          obtain ⟨v_9, ev_9, hf⟩ := nm_e hf
          refine lv_iinc (v := v_9) (lv' := [(4, .int v_9), (2, .int q25.2.2.1), (3, .int (-9 : Int32)), (5, .int (-9 : Int32)), (0, .ref (A 0)), (1, .int p1)]) hx hb dX4_loudest_88 hl (k := 5) rfl (by rw [ev_9]; rfl) (by decide) rfl (fun ls hl => ?_)
          refine lv_goto (tgt := 25) hx hb dX4_loudest_91 (by decide) ?_
          exact ih25 (q25.2.2.1, (-9 : Int32), v_9, a_4) hf H locs ls hP hD hS (lv_sub hl [4, 5, 1, 2, 0] rfl)
      · replace hf := if_f c_6 hf
        refine lv_aload_n hx hb dX4_loudest_60 rfl (lv_at hl 0 rfl) ?_
        refine va_get (D := D) (ci := 4) (v := .ref (A 10)) (C := RX4) (T := TX4) (N := 8) hx hb hts hw4 hown hK hP 0 cX_at0 rfl 1 (by decide) k16 (fun _ h9 => h9) rfl dX4_loudest_61 ?_
        refine lv_iload hx hb dX4_loudest_64 (lv_at hl 4 rfl) ?_
        obtain ⟨a_10, ha_10, hf⟩ := bd_e hf
        refine Ct.callV (As := [.int q25.2.2.1]) (rest := []) (st1 := [.int a_10.1]) (c_X0_word l D cI (fun j => A (10 + j)) a_4 q25.2.2.1 a_10 ha_10) hx hb hml hown hts (cwV 1 hts gX4_loudest_X0_word rfl rfl rfl hd_X0_word ⟨Nat.le_of_ble_eq_true rfl, Nat.le_of_ble_eq_true rfl⟩) (va_recv hK hP (ci := 0) (q0 := 10) rfl cX_at10) ln_X_H_t hA hK hP hD hS rfl hl.1 rfl rfl (Nat.le_of_ble_eq_true rfl) dX4_loudest_66 (fun H locs hP hD hS => ?_)
        replace hP : va_P D vwCl (cX cI A n a_10.2 k g w z q) H := hP
        replace hD : va_D AA (cX cI A n a_10.2 k g w z q) := hD
        refine lv_goto (tgt := 74) hx hb dX4_loudest_69 (by decide) ?_
        refine lv_istore (lv' := [(5, .int a_10.1), (0, .ref (A 0)), (1, .int p1), (2, .int q25.1), (3, .int q25.2.1), (4, .int q25.2.2.1)]) hx hb dX4_loudest_74 hl (by decide) rfl (fun ls hl => ?_)
        refine lv_iload hx hb dX4_loudest_76 (lv_at hl 0 rfl) ?_
        refine lv_iload_n hx hb dX4_loudest_78 rfl (lv_at hl 4 rfl) ?_
        refine lv_icmp_le (tgt := 88) hx hb dX4_loudest_79 (by decide) (fun c_11 => ?_) (fun c_11 => ?_)
        · replace hf := if_t c_11 hf
          obtain ⟨v_12, ev_12, hf⟩ := nm_e hf
          refine lv_iinc (v := v_12) (lv' := [(4, .int v_12), (5, .int a_10.1), (0, .ref (A 0)), (1, .int p1), (2, .int q25.1), (3, .int q25.2.1)]) hx hb dX4_loudest_88 hl (k := 5) rfl (by rw [ev_12]; rfl) (by decide) rfl (fun ls hl => ?_)
          refine lv_goto (tgt := 25) hx hb dX4_loudest_91 (by decide) ?_
          exact ih25 (q25.1, q25.2.1, v_12, a_10.2) hf H locs ls hP hD hS (lv_sub hl [2, 3, 4, 5, 0] rfl)
        · replace hf := if_f c_11 hf
          refine lv_iload hx hb dX4_loudest_82 (lv_at hl 0 rfl) ?_
          refine lv_istore_n (lv' := [(3, .int a_10.1), (5, .int a_10.1), (0, .ref (A 0)), (1, .int p1), (2, .int q25.1), (4, .int q25.2.2.1)]) hx hb dX4_loudest_84 rfl hl (by decide) rfl (fun ls hl => ?_)
          refine lv_iload hx hb dX4_loudest_85 (lv_at hl 5 rfl) ?_
          refine lv_istore_n (lv' := [(2, .int q25.2.2.1), (3, .int a_10.1), (5, .int a_10.1), (0, .ref (A 0)), (1, .int p1), (4, .int q25.2.2.1)]) hx hb dX4_loudest_87 rfl hl (by decide) rfl (fun ls hl => ?_)
          obtain ⟨v_13, ev_13, hf⟩ := nm_e hf
          refine lv_iinc (v := v_13) (lv' := [(4, .int v_13), (2, .int q25.2.2.1), (3, .int a_10.1), (5, .int a_10.1), (0, .ref (A 0)), (1, .int p1)]) hx hb dX4_loudest_88 hl (k := 5) rfl (by rw [ev_13]; rfl) (by decide) rfl (fun ls hl => ?_)
          refine lv_goto (tgt := 25) hx hb dX4_loudest_91 (by decide) ?_
          exact ih25 (q25.2.2.1, a_10.1, v_13, a_10.2) hf H locs ls hP hD hS (lv_sub hl [4, 5, 1, 2, 0] rfl)
  · replace hf := if_f c_1 hf
    refine lv_iload_n hx hb dX4_loudest_4 rfl (lv_at hl 1 rfl) ?_
    refine lv_iconst (v := 1) hx hb dX4_loudest_5 (by decide) ?_
    refine lv_icmp_eq (tgt := 16) hx hb dX4_loudest_6 (by decide) (fun c_14 => ?_) (fun c_14 => ?_)
    · replace hf := if_t c_14 hf
      refine lv_bipush (v := -9) hx hb dX4_loudest_16 (by decide +kernel) ?_
      refine lv_istore_n (lv' := [(2, .int (-9 : Int32)), (0, .ref (A 0)), (1, .int p1)]) hx hb dX4_loudest_18 rfl hl (by decide) rfl (fun ls hl => ?_)
      refine lv_bipush (v := -9) hx hb dX4_loudest_19 (by decide +kernel) ?_
      refine lv_istore_n (lv' := [(3, .int (-9 : Int32)), (2, .int (-9 : Int32)), (0, .ref (A 0)), (1, .int p1)]) hx hb dX4_loudest_21 rfl hl (by decide) rfl (fun ls hl => ?_)
      refine lv_iconst (v := 0) hx hb dX4_loudest_22 (by decide) ?_
      refine lv_istore (lv' := [(4, .int (0 : Int32)), (3, .int (-9 : Int32)), (2, .int (-9 : Int32)), (0, .ref (A 0)), (1, .int p1)]) hx hb dX4_loudest_23 hl (by decide) rfl (fun ls hl => ?_)
      refine lp_ind (P := fun (q25 : Int32 × Int32 × Int32 × St) => ∀ (H : Heap) (locs : List Loc) (ls : Array Slot), va_P D vwCl (cX cI A n q25.2.2.2 k g w z q) H → va_D AA (cX cI A n q25.2.2.2 k g w z q) → va_S AA s.heap H locs → lv_has ls 6 [(0, .ref (A 0)), (1, .int p1), (2, .int q25.1), (3, .int q25.2.1), (4, .int q25.2.2.1)] → W p l e rm_X4_loudest s m args below meth c H locs 0 0 Q (F0 m 25 ls [])) hf ?_ H locs ls hP hD hS (lv_sub hl [3, 4, 2, 1, 0] rfl)
      clear hf hP hD hS hl
      intro nx25 ih25 q25 hf H locs ls hP hD hS hl
      refine lv_iload hx hb dX4_loudest_25 (lv_at hl 4 rfl) ?_
      refine lv_aload_n hx hb dX4_loudest_27 rfl (lv_at hl 0 rfl) ?_
      refine va_get (D := D) (ci := 4) (v := .ref (A 1)) (C := RX4) (T := TX4) (N := 8) hx hb hts hw4 hown hK hP 0 cX_at0 rfl 0 (by decide) k10 (fun _ h9 => h9) rfl dX4_loudest_28 ?_
      refine va_get (D := D) (ci := 0) (v := .int (n 16 1)) (C := RX0) (T := TX0) (N := 12) hx hb hts hw0 hown hK hP 1 cX_at1 rfl 4 (by decide) k158 (fun _ h9 => h9) rfl dX4_loudest_31 ?_
      refine lv_icmp_ge (tgt := 94) hx hb dX4_loudest_34 (by decide) (fun c_15 => ?_) (fun c_15 => ?_)
      · replace hf := if_t c_15 hf
        refine lv_iload_n hx hb dX4_loudest_94 rfl (lv_at hl 1 rfl) ?_
        refine lv_if_ne (tgt := 102) hx hb dX4_loudest_95 (by decide) (fun c_16 => ?_) (fun c_16 => ?_)
        · replace hf := if_f c_16 hf
          refine lv_iload_n hx hb dX4_loudest_102 rfl (lv_at hl 3 rfl) ?_
          exact hend (q25.2.1, q25.2.2.2, q) H locs _ _ hf hP hS dX4_loudest_103
        · replace hf := if_t c_16 hf
          refine lv_iload_n hx hb dX4_loudest_98 rfl (lv_at hl 2 rfl) ?_
          refine lv_goto (tgt := 103) hx hb dX4_loudest_99 (by decide) ?_
          exact hend (q25.1, q25.2.2.2, q) H locs _ _ hf hP hS dX4_loudest_103
      · replace hf := if_f c_15 hf
        refine lv_aload_n hx hb dX4_loudest_37 rfl (lv_at hl 0 rfl) ?_
        refine va_get (D := D) (ci := 4) (v := .ref (A 10)) (C := RX4) (T := TX4) (N := 8) hx hb hts hw4 hown hK hP 0 cX_at0 rfl 1 (by decide) k16 (fun _ h9 => h9) rfl dX4_loudest_38 ?_
        refine lv_aload_n hx hb dX4_loudest_41 rfl (lv_at hl 0 rfl) ?_
        refine va_get (D := D) (ci := 4) (v := .ref (A 1)) (C := RX4) (T := TX4) (N := 8) hx hb hts hw4 hown hK hP 0 cX_at0 rfl 0 (by decide) k10 (fun _ h9 => h9) rfl dX4_loudest_42 ?_
        obtain ⟨a_17, ha_17, hf⟩ := bd_e hf
        refine Ct.callV (As := [.ref (A 1)]) (rest := []) (st1 := []) (c_X0_copyFrom l D cI (fun j => A (10 + j)) (fun j => A (1 + j)) q25.2.2.2 n a_17 ha_17) hx hb hml hown hts (cwV 1 hts gX4_loudest_X0_copyFrom rfl rfl rfl hd_X0_copyFrom ⟨Nat.le_of_ble_eq_true rfl, Nat.le_of_ble_eq_true rfl⟩) (va_recv hK hP (ci := 0) (q0 := 10) rfl cX_at10) ln_X_HH_tn hA hK hP hD hS rfl hl.1 rfl rfl (Nat.le_of_ble_eq_true rfl) dX4_loudest_45 (fun H locs hP hD hS => ?_)
        replace hP : va_P D vwCl (cX cI A n a_17 k g w z q) H := hP
        replace hD : va_D AA (cX cI A n a_17 k g w z q) := hD
        refine lv_aload_n hx hb dX4_loudest_48 rfl (lv_at hl 0 rfl) ?_
        refine va_get (D := D) (ci := 4) (v := .ref (A 10)) (C := RX4) (T := TX4) (N := 8) hx hb hts hw4 hown hK hP 0 cX_at0 rfl 1 (by decide) k16 (fun _ h9 => h9) rfl dX4_loudest_49 ?_
        refine lv_iload hx hb dX4_loudest_52 (lv_at hl 4 rfl) ?_
        obtain ⟨a_18, ha_18, hf⟩ := bd_e hf
        refine Ct.callV (As := [.int q25.2.2.1]) (rest := []) (st1 := [.int a_18]) (c_X0_canTell l D cI (fun j => A (10 + j)) a_17 q25.2.2.1 a_18 ha_18) hx hb hml hown hts (cwV 1 hts gX4_loudest_X0_canTell rfl rfl rfl hd_X0_canTell ⟨Nat.le_of_ble_eq_true rfl, Nat.le_of_ble_eq_true rfl⟩) (va_recv hK hP (ci := 0) (q0 := 10) rfl cX_at10) ln_X_H_t hA hK hP hD hS rfl hl.1 rfl rfl (Nat.le_of_ble_eq_true rfl) dX4_loudest_54 (fun H locs hP hD hS => ?_)
        refine lv_if_eq (tgt := 72) hx hb dX4_loudest_57 (by decide) (fun c_19 => ?_) (fun c_19 => ?_)
        · replace hf := if_t c_19 hf
          refine lv_bipush (v := -9) hx hb dX4_loudest_72 (by decide +kernel) ?_
          refine lv_istore (lv' := [(5, .int (-9 : Int32)), (0, .ref (A 0)), (1, .int p1), (2, .int q25.1), (3, .int q25.2.1), (4, .int q25.2.2.1)]) hx hb dX4_loudest_74 hl (by decide) rfl (fun ls hl => ?_)
          refine lv_iload hx hb dX4_loudest_76 (lv_at hl 0 rfl) ?_
          refine lv_iload_n hx hb dX4_loudest_78 rfl (lv_at hl 4 rfl) ?_
          refine lv_icmp_le (tgt := 88) hx hb dX4_loudest_79 (by decide) (fun c_20 => ?_) (fun c_20 => ?_)
          · replace hf := if_t c_20 hf
            obtain ⟨v_21, ev_21, hf⟩ := nm_e hf
            refine lv_iinc (v := v_21) (lv' := [(4, .int v_21), (5, .int (-9 : Int32)), (0, .ref (A 0)), (1, .int p1), (2, .int q25.1), (3, .int q25.2.1)]) hx hb dX4_loudest_88 hl (k := 5) rfl (by rw [ev_21]; rfl) (by decide) rfl (fun ls hl => ?_)
            refine lv_goto (tgt := 25) hx hb dX4_loudest_91 (by decide) ?_
            exact ih25 (q25.1, q25.2.1, v_21, a_17) hf H locs ls hP hD hS (lv_sub hl [2, 3, 4, 5, 0] rfl)
          · replace hf := if_f c_20 hf
            refine lv_iload hx hb dX4_loudest_82 (lv_at hl 0 rfl) ?_
            refine lv_istore_n (lv' := [(3, .int (-9 : Int32)), (5, .int (-9 : Int32)), (0, .ref (A 0)), (1, .int p1), (2, .int q25.1), (4, .int q25.2.2.1)]) hx hb dX4_loudest_84 rfl hl (by decide) rfl (fun ls hl => ?_)
            refine lv_iload hx hb dX4_loudest_85 (lv_at hl 5 rfl) ?_
            refine lv_istore_n (lv' := [(2, .int q25.2.2.1), (3, .int (-9 : Int32)), (5, .int (-9 : Int32)), (0, .ref (A 0)), (1, .int p1), (4, .int q25.2.2.1)]) hx hb dX4_loudest_87 rfl hl (by decide) rfl (fun ls hl => ?_)
            obtain ⟨v_22, ev_22, hf⟩ := nm_e hf
            refine lv_iinc (v := v_22) (lv' := [(4, .int v_22), (2, .int q25.2.2.1), (3, .int (-9 : Int32)), (5, .int (-9 : Int32)), (0, .ref (A 0)), (1, .int p1)]) hx hb dX4_loudest_88 hl (k := 5) rfl (by rw [ev_22]; rfl) (by decide) rfl (fun ls hl => ?_)
            refine lv_goto (tgt := 25) hx hb dX4_loudest_91 (by decide) ?_
            exact ih25 (q25.2.2.1, (-9 : Int32), v_22, a_17) hf H locs ls hP hD hS (lv_sub hl [4, 5, 1, 2, 0] rfl)
        · replace hf := if_f c_19 hf
          refine lv_aload_n hx hb dX4_loudest_60 rfl (lv_at hl 0 rfl) ?_
          refine va_get (D := D) (ci := 4) (v := .ref (A 10)) (C := RX4) (T := TX4) (N := 8) hx hb hts hw4 hown hK hP 0 cX_at0 rfl 1 (by decide) k16 (fun _ h9 => h9) rfl dX4_loudest_61 ?_
          refine lv_iload hx hb dX4_loudest_64 (lv_at hl 4 rfl) ?_
          obtain ⟨a_23, ha_23, hf⟩ := bd_e hf
          refine Ct.callV (As := [.int q25.2.2.1]) (rest := []) (st1 := [.int a_23.1]) (c_X0_word l D cI (fun j => A (10 + j)) a_17 q25.2.2.1 a_23 ha_23) hx hb hml hown hts (cwV 1 hts gX4_loudest_X0_word rfl rfl rfl hd_X0_word ⟨Nat.le_of_ble_eq_true rfl, Nat.le_of_ble_eq_true rfl⟩) (va_recv hK hP (ci := 0) (q0 := 10) rfl cX_at10) ln_X_H_t hA hK hP hD hS rfl hl.1 rfl rfl (Nat.le_of_ble_eq_true rfl) dX4_loudest_66 (fun H locs hP hD hS => ?_)
          replace hP : va_P D vwCl (cX cI A n a_23.2 k g w z q) H := hP
          replace hD : va_D AA (cX cI A n a_23.2 k g w z q) := hD
          refine lv_goto (tgt := 74) hx hb dX4_loudest_69 (by decide) ?_
          refine lv_istore (lv' := [(5, .int a_23.1), (0, .ref (A 0)), (1, .int p1), (2, .int q25.1), (3, .int q25.2.1), (4, .int q25.2.2.1)]) hx hb dX4_loudest_74 hl (by decide) rfl (fun ls hl => ?_)
          refine lv_iload hx hb dX4_loudest_76 (lv_at hl 0 rfl) ?_
          refine lv_iload_n hx hb dX4_loudest_78 rfl (lv_at hl 4 rfl) ?_
          refine lv_icmp_le (tgt := 88) hx hb dX4_loudest_79 (by decide) (fun c_24 => ?_) (fun c_24 => ?_)
          · replace hf := if_t c_24 hf
            obtain ⟨v_25, ev_25, hf⟩ := nm_e hf
            refine lv_iinc (v := v_25) (lv' := [(4, .int v_25), (5, .int a_23.1), (0, .ref (A 0)), (1, .int p1), (2, .int q25.1), (3, .int q25.2.1)]) hx hb dX4_loudest_88 hl (k := 5) rfl (by rw [ev_25]; rfl) (by decide) rfl (fun ls hl => ?_)
            refine lv_goto (tgt := 25) hx hb dX4_loudest_91 (by decide) ?_
            exact ih25 (q25.1, q25.2.1, v_25, a_23.2) hf H locs ls hP hD hS (lv_sub hl [2, 3, 4, 5, 0] rfl)
          · replace hf := if_f c_24 hf
            refine lv_iload hx hb dX4_loudest_82 (lv_at hl 0 rfl) ?_
            refine lv_istore_n (lv' := [(3, .int a_23.1), (5, .int a_23.1), (0, .ref (A 0)), (1, .int p1), (2, .int q25.1), (4, .int q25.2.2.1)]) hx hb dX4_loudest_84 rfl hl (by decide) rfl (fun ls hl => ?_)
            refine lv_iload hx hb dX4_loudest_85 (lv_at hl 5 rfl) ?_
            refine lv_istore_n (lv' := [(2, .int q25.2.2.1), (3, .int a_23.1), (5, .int a_23.1), (0, .ref (A 0)), (1, .int p1), (4, .int q25.2.2.1)]) hx hb dX4_loudest_87 rfl hl (by decide) rfl (fun ls hl => ?_)
            obtain ⟨v_26, ev_26, hf⟩ := nm_e hf
            refine lv_iinc (v := v_26) (lv' := [(4, .int v_26), (2, .int q25.2.2.1), (3, .int a_23.1), (5, .int a_23.1), (0, .ref (A 0)), (1, .int p1)]) hx hb dX4_loudest_88 hl (k := 5) rfl (by rw [ev_26]; rfl) (by decide) rfl (fun ls hl => ?_)
            refine lv_goto (tgt := 25) hx hb dX4_loudest_91 (by decide) ?_
            exact ih25 (q25.2.2.1, a_23.1, v_26, a_23.2) hf H locs ls hP hD hS (lv_sub hl [4, 5, 1, 2, 0] rfl)
    · replace hf := if_f c_14 hf
      refine lv_aload_n hx hb dX4_loudest_9 rfl (lv_at hl 0 rfl) ?_
      refine lv_bipush (v := -2) hx hb dX4_loudest_10 (by decide +kernel) ?_
      obtain ⟨a_27, ha_27, hf⟩ := bd_e hf
      refine Ct.callV (As := [.int (-2 : Int32)]) (rest := []) (st1 := [.int a_27.1]) (c_X4_refused l D cI A n t k g w z q (-2 : Int32) a_27 ha_27) hx hb hml hown hts (cwV 1 hts gX4_loudest_X4_refused rfl rfl rfl hd_X4_refused ⟨Nat.le_of_ble_eq_true rfl, Nat.le_of_ble_eq_true rfl⟩) (va_recv hK hP (ci := 4) (q0 := 0) rfl cX_at0) (Ln.id rfl) hA hK hP hD hS rfl hl.1 rfl rfl (Nat.le_of_ble_eq_true rfl) dX4_loudest_12 (fun H locs hP hD hS => ?_)
      replace hP : va_P D vwCl (cX cI A n t k g w z a_27.2) H := hP
      replace hD : va_D AA (cX cI A n t k g w z a_27.2) := hD
      exact hend (a_27.1, t, a_27.2) H locs _ _ hf hP hS dX4_loudest_15

def f_X4_spree (n : St) (t : St) (k : St) (g : St) (w : St) (z : St) (q : St) (p1 : Int32) : Option (Int32 × St × St) := (if p1 = 0 then (bd (f_X0_copyFrom t n) fun a_2 => (lp (fun (nx29 : (Int32 × St) → Option (Int32 × St × St)) (q29 : Int32 × St) => (if (n 16 1) ≤ q29.1 then (if p1 = 0 then (bd (f_X0_outBits q29.2) fun a_5 => (bd (f_J6_bitCount_0f7a4 a_5) fun a_6 => (some (a_6, q29.2, q)))) else (some ((q29.2 16 2), q29.2, q))) else (bd (f_X0_word q29.2 q29.1) fun a_7 => (nm (q29.1 + (1 : Int32)) fun v_8 => (nx29 (v_8, a_7.2)))))) 1000 ((0 : Int32), a_2))) else (if p1 = (1 : Int32) then (bd (f_X0_copyFrom t n) fun a_10 => (lp (fun (nx29 : (Int32 × St) → Option (Int32 × St × St)) (q29 : Int32 × St) => (if (n 16 1) ≤ q29.1 then (if p1 = 0 then (bd (f_X0_outBits q29.2) fun a_13 => (bd (f_J6_bitCount_0f7a4 a_13) fun a_14 => (some (a_14, q29.2, q)))) else (some ((q29.2 16 2), q29.2, q))) else (bd (f_X0_word q29.2 q29.1) fun a_15 => (nm (q29.1 + (1 : Int32)) fun v_16 => (nx29 (v_16, a_15.2)))))) 1000 ((0 : Int32), a_10))) else (bd (f_X4_refused n t k g w z q (-2 : Int32)) fun a_17 => (some (a_17.1, t, a_17.2)))))
def rm_X4_spree : Room := { frames := 4, cells := 0, slots := 0, locals := 89 }
theorem hd_X4_spree : yX4_spree.cls = RX4 ∧ yX4_spree.cls ≠ "java/lang/invoke/MethodHandle" ∧ yX4_spree.cls ≠ "java/lang/invoke/VarHandle" ∧ (parseMethodDescriptor yX4_spree.desc).map (fun d => d.parameters.length) = some 1 := by decide +kernel
set_option maxRecDepth 100000 in
set_option maxHeartbeats 4000000 in
theorem c_X4_spree (l : Launch) (D : va_G) (cI : ClassId) (A : Nat → Nat) (n : St) (t : St) (k : St) (g : St) (w : St) (z : St) (q : St) (p1 : Int32) (r : Int32 × St × St) (hf : f_X4_spree n t k g w z q p1 = some r) : Ct l yX4_spree wsX4_spree rm_X4_spree D cI (cX cI A n t k g w z q) (cX cI A n r.2.1 k g w z r.2.2) [.ref (A 0), .int p1] (some (.int r.1)) := by
  unfold f_X4_spree at hf
  refine Ct.ofI (cc := cX4_spree) (maxL := 3) (by decide +kernel) rfl (Nat.le_of_ble_eq_true rfl) ?_
  intro p e s m args below meth c AA Q H locs ls hx hb hml hown hts hA hK hP hD hS hl hend0
  have hend : ∀ (r1 : Int32 × St × St) (H : Heap) (locs : List Loc) (pc : Nat) (ls : Array Slot), some r1 = some r → va_P D vwCl (cX cI A n r1.2.1 k g w z r1.2.2) H → va_S AA s.heap H locs → decode cX4_spree pc = .ok (.ireturn, 1) → W p l e rm_X4_spree s m args below meth c H locs 0 0 Q (F0 m pc ls [.int r1.1]) := by
    intro r1 H locs pc ls e1 hP hS hd; cases e1; exact hend0 H locs pc ls hP hS hd
  clear hend0
  have hw0 : ∀ w ∈ wsX00, w ∈ wsX4_spree := by decide +kernel
  have hw4 : ∀ w ∈ wsX40, w ∈ wsX4_spree := by decide +kernel
  have k10 := hts (.fieldLink RX4 10 "AnchorsForConfession" "now" "LAnchorsForConfession$Harbour;") (by decide +kernel)
  have k16 := hts (.fieldLink RX4 16 "AnchorsForConfession" "thought" "LAnchorsForConfession$Harbour;") (by decide +kernel)
  have k158 := hts (.fieldLink RX4 158 "AnchorsForConfession$Harbour" "men" "I") (by decide +kernel)
  have k168 := hts (.fieldLink RX4 168 "AnchorsForConfession$Harbour" "heard" "I") (by decide +kernel)
  replace hl : lv_has ls 3 [(0, .ref (A 0)), (1, .int p1)] := hl
  refine lv_iload_n hx hb dX4_spree_0 rfl (lv_at hl 1 rfl) ?_
  refine lv_if_eq (tgt := 16) hx hb dX4_spree_1 (by decide) (fun c_1 => ?_) (fun c_1 => ?_)
  · replace hf := if_t c_1 hf
    refine lv_aload_n hx hb dX4_spree_16 rfl (lv_at hl 0 rfl) ?_
    refine va_get (D := D) (ci := 4) (v := .ref (A 10)) (C := RX4) (T := TX4) (N := 8) hx hb hts hw4 hown hK hP 0 cX_at0 rfl 1 (by decide) k16 (fun _ h9 => h9) rfl dX4_spree_17 ?_
    refine lv_aload_n hx hb dX4_spree_20 rfl (lv_at hl 0 rfl) ?_
    refine va_get (D := D) (ci := 4) (v := .ref (A 1)) (C := RX4) (T := TX4) (N := 8) hx hb hts hw4 hown hK hP 0 cX_at0 rfl 0 (by decide) k10 (fun _ h9 => h9) rfl dX4_spree_21 ?_
    obtain ⟨a_2, ha_2, hf⟩ := bd_e hf
    refine Ct.callV (As := [.ref (A 1)]) (rest := []) (st1 := []) (c_X0_copyFrom l D cI (fun j => A (10 + j)) (fun j => A (1 + j)) t n a_2 ha_2) hx hb hml hown hts (cwV 1 hts gX4_spree_X0_copyFrom rfl rfl rfl hd_X0_copyFrom ⟨Nat.le_of_ble_eq_true rfl, Nat.le_of_ble_eq_true rfl⟩) (va_recv hK hP (ci := 0) (q0 := 10) rfl cX_at10) ln_X_HH_tn hA hK hP hD hS rfl hl.1 rfl rfl (Nat.le_of_ble_eq_true rfl) dX4_spree_24 (fun H locs hP hD hS => ?_)
    replace hP : va_P D vwCl (cX cI A n a_2 k g w z q) H := hP
    replace hD : va_D AA (cX cI A n a_2 k g w z q) := hD
    refine lv_iconst (v := 0) hx hb dX4_spree_27 (by decide) ?_
    refine lv_istore_n (lv' := [(2, .int (0 : Int32)), (0, .ref (A 0)), (1, .int p1)]) hx hb dX4_spree_28 rfl hl (by decide) rfl (fun ls hl => ?_)
    refine lp_ind (P := fun (q29 : Int32 × St) => ∀ (H : Heap) (locs : List Loc) (ls : Array Slot), va_P D vwCl (cX cI A n q29.2 k g w z q) H → va_D AA (cX cI A n q29.2 k g w z q) → va_S AA s.heap H locs → lv_has ls 3 [(0, .ref (A 0)), (1, .int p1), (2, .int q29.1)] → W p l e rm_X4_spree s m args below meth c H locs 0 0 Q (F0 m 29 ls [])) hf ?_ H locs ls hP hD hS (lv_sub hl [1, 2, 0] rfl)
    clear hf hP hD hS hl
    intro nx29 ih29 q29 hf H locs ls hP hD hS hl
    refine lv_iload_n hx hb dX4_spree_29 rfl (lv_at hl 2 rfl) ?_
    refine lv_aload_n hx hb dX4_spree_30 rfl (lv_at hl 0 rfl) ?_
    refine va_get (D := D) (ci := 4) (v := .ref (A 1)) (C := RX4) (T := TX4) (N := 8) hx hb hts hw4 hown hK hP 0 cX_at0 rfl 0 (by decide) k10 (fun _ h9 => h9) rfl dX4_spree_31 ?_
    refine va_get (D := D) (ci := 0) (v := .int (n 16 1)) (C := RX0) (T := TX0) (N := 12) hx hb hts hw0 hown hK hP 1 cX_at1 rfl 4 (by decide) k158 (fun _ h9 => h9) rfl dX4_spree_34 ?_
    refine lv_icmp_ge (tgt := 55) hx hb dX4_spree_37 (by decide) (fun c_3 => ?_) (fun c_3 => ?_)
    · replace hf := if_t c_3 hf
      refine lv_iload_n hx hb dX4_spree_55 rfl (lv_at hl 1 rfl) ?_
      refine lv_if_ne (tgt := 72) hx hb dX4_spree_56 (by decide) (fun c_4 => ?_) (fun c_4 => ?_)
      · replace hf := if_f c_4 hf
        refine lv_aload_n hx hb dX4_spree_72 rfl (lv_at hl 0 rfl) ?_
        refine va_get (D := D) (ci := 4) (v := .ref (A 10)) (C := RX4) (T := TX4) (N := 8) hx hb hts hw4 hown hK hP 0 cX_at0 rfl 1 (by decide) k16 (fun _ h9 => h9) rfl dX4_spree_73 ?_
        refine va_get (D := D) (ci := 0) (v := .int (q29.2 16 2)) (C := RX0) (T := TX0) (N := 12) hx hb hts hw0 hown hK hP 10 cX_at10 rfl 9 (by decide) k168 (fun _ h9 => h9) rfl dX4_spree_76 ?_
        exact hend ((q29.2 16 2), q29.2, q) H locs _ _ hf hP hS dX4_spree_79
      · replace hf := if_t c_4 hf
        refine lv_aload_n hx hb dX4_spree_59 rfl (lv_at hl 0 rfl) ?_
        refine va_get (D := D) (ci := 4) (v := .ref (A 10)) (C := RX4) (T := TX4) (N := 8) hx hb hts hw4 hown hK hP 0 cX_at0 rfl 1 (by decide) k16 (fun _ h9 => h9) rfl dX4_spree_60 ?_
        obtain ⟨a_5, ha_5, hf⟩ := bd_e hf
        refine Ct.callV (As := []) (rest := []) (st1 := [.int a_5]) (c_X0_outBits l D cI (fun j => A (10 + j)) q29.2 a_5 ha_5) hx hb hml hown hts (cwV 0 hts gX4_spree_X0_outBits rfl rfl rfl hd_X0_outBits ⟨Nat.le_of_ble_eq_true rfl, Nat.le_of_ble_eq_true rfl⟩) (va_recv hK hP (ci := 0) (q0 := 10) rfl cX_at10) ln_X_H_t hA hK hP hD hS rfl hl.1 rfl rfl (Nat.le_of_ble_eq_true rfl) dX4_spree_63 (fun H locs hP hD hS => ?_)
        obtain ⟨a_6, ha_6, hf⟩ := bd_e hf
        refine Ct.callS (As := [.int a_5]) (rest := []) (st1 := [.int a_6]) (c_J6_bitCount_0f7a4 l D cI  a_5 a_6 ha_6) hx hb hml hown hts (va_cwS 1 hts gX4_spree_J6_bitCount_0f7a4 rfl rfl rfl hd_J6_bitCount_0f7a4 ⟨Nat.le_of_ble_eq_true rfl, Nat.le_of_ble_eq_true rfl⟩) Ln.nil hA hK hP hD hS rfl hl.1 rfl rfl (Nat.le_of_ble_eq_true rfl) dX4_spree_66 (fun H locs hP hD hS => ?_)
        refine lv_goto (tgt := 79) hx hb dX4_spree_69 (by decide) ?_
        exact hend (a_6, q29.2, q) H locs _ _ hf hP hS dX4_spree_79
    · replace hf := if_f c_3 hf
      refine lv_aload_n hx hb dX4_spree_40 rfl (lv_at hl 0 rfl) ?_
      refine va_get (D := D) (ci := 4) (v := .ref (A 10)) (C := RX4) (T := TX4) (N := 8) hx hb hts hw4 hown hK hP 0 cX_at0 rfl 1 (by decide) k16 (fun _ h9 => h9) rfl dX4_spree_41 ?_
      refine lv_iload_n hx hb dX4_spree_44 rfl (lv_at hl 2 rfl) ?_
      obtain ⟨a_7, ha_7, hf⟩ := bd_e hf
      refine Ct.callV (As := [.int q29.1]) (rest := []) (st1 := [.int a_7.1]) (c_X0_word l D cI (fun j => A (10 + j)) q29.2 q29.1 a_7 ha_7) hx hb hml hown hts (cwV 1 hts gX4_spree_X0_word rfl rfl rfl hd_X0_word ⟨Nat.le_of_ble_eq_true rfl, Nat.le_of_ble_eq_true rfl⟩) (va_recv hK hP (ci := 0) (q0 := 10) rfl cX_at10) ln_X_H_t hA hK hP hD hS rfl hl.1 rfl rfl (Nat.le_of_ble_eq_true rfl) dX4_spree_45 (fun H locs hP hD hS => ?_)
      replace hP : va_P D vwCl (cX cI A n a_7.2 k g w z q) H := hP
      replace hD : va_D AA (cX cI A n a_7.2 k g w z q) := hD
      refine lv_pop hx hb dX4_spree_48 rfl ?_
      obtain ⟨v_8, ev_8, hf⟩ := nm_e hf
      refine lv_iinc (v := v_8) (lv' := [(2, .int v_8), (0, .ref (A 0)), (1, .int p1)]) hx hb dX4_spree_49 hl (k := 2) rfl (by rw [ev_8]; rfl) (by decide) rfl (fun ls hl => ?_)
      refine lv_goto (tgt := 29) hx hb dX4_spree_52 (by decide) ?_
      exact ih29 (v_8, a_7.2) hf H locs ls hP hD hS (lv_sub hl [1, 2, 0] rfl)
  · replace hf := if_f c_1 hf
    refine lv_iload_n hx hb dX4_spree_4 rfl (lv_at hl 1 rfl) ?_
    refine lv_iconst (v := 1) hx hb dX4_spree_5 (by decide) ?_
    refine lv_icmp_eq (tgt := 16) hx hb dX4_spree_6 (by decide) (fun c_9 => ?_) (fun c_9 => ?_)
    · replace hf := if_t c_9 hf
      refine lv_aload_n hx hb dX4_spree_16 rfl (lv_at hl 0 rfl) ?_
      refine va_get (D := D) (ci := 4) (v := .ref (A 10)) (C := RX4) (T := TX4) (N := 8) hx hb hts hw4 hown hK hP 0 cX_at0 rfl 1 (by decide) k16 (fun _ h9 => h9) rfl dX4_spree_17 ?_
      refine lv_aload_n hx hb dX4_spree_20 rfl (lv_at hl 0 rfl) ?_
      refine va_get (D := D) (ci := 4) (v := .ref (A 1)) (C := RX4) (T := TX4) (N := 8) hx hb hts hw4 hown hK hP 0 cX_at0 rfl 0 (by decide) k10 (fun _ h9 => h9) rfl dX4_spree_21 ?_
      obtain ⟨a_10, ha_10, hf⟩ := bd_e hf
      refine Ct.callV (As := [.ref (A 1)]) (rest := []) (st1 := []) (c_X0_copyFrom l D cI (fun j => A (10 + j)) (fun j => A (1 + j)) t n a_10 ha_10) hx hb hml hown hts (cwV 1 hts gX4_spree_X0_copyFrom rfl rfl rfl hd_X0_copyFrom ⟨Nat.le_of_ble_eq_true rfl, Nat.le_of_ble_eq_true rfl⟩) (va_recv hK hP (ci := 0) (q0 := 10) rfl cX_at10) ln_X_HH_tn hA hK hP hD hS rfl hl.1 rfl rfl (Nat.le_of_ble_eq_true rfl) dX4_spree_24 (fun H locs hP hD hS => ?_)
      replace hP : va_P D vwCl (cX cI A n a_10 k g w z q) H := hP
      replace hD : va_D AA (cX cI A n a_10 k g w z q) := hD
      refine lv_iconst (v := 0) hx hb dX4_spree_27 (by decide) ?_
      refine lv_istore_n (lv' := [(2, .int (0 : Int32)), (0, .ref (A 0)), (1, .int p1)]) hx hb dX4_spree_28 rfl hl (by decide) rfl (fun ls hl => ?_)
      refine lp_ind (P := fun (q29 : Int32 × St) => ∀ (H : Heap) (locs : List Loc) (ls : Array Slot), va_P D vwCl (cX cI A n q29.2 k g w z q) H → va_D AA (cX cI A n q29.2 k g w z q) → va_S AA s.heap H locs → lv_has ls 3 [(0, .ref (A 0)), (1, .int p1), (2, .int q29.1)] → W p l e rm_X4_spree s m args below meth c H locs 0 0 Q (F0 m 29 ls [])) hf ?_ H locs ls hP hD hS (lv_sub hl [1, 2, 0] rfl)
      clear hf hP hD hS hl
      intro nx29 ih29 q29 hf H locs ls hP hD hS hl
      refine lv_iload_n hx hb dX4_spree_29 rfl (lv_at hl 2 rfl) ?_
      refine lv_aload_n hx hb dX4_spree_30 rfl (lv_at hl 0 rfl) ?_
      refine va_get (D := D) (ci := 4) (v := .ref (A 1)) (C := RX4) (T := TX4) (N := 8) hx hb hts hw4 hown hK hP 0 cX_at0 rfl 0 (by decide) k10 (fun _ h9 => h9) rfl dX4_spree_31 ?_
      refine va_get (D := D) (ci := 0) (v := .int (n 16 1)) (C := RX0) (T := TX0) (N := 12) hx hb hts hw0 hown hK hP 1 cX_at1 rfl 4 (by decide) k158 (fun _ h9 => h9) rfl dX4_spree_34 ?_
      refine lv_icmp_ge (tgt := 55) hx hb dX4_spree_37 (by decide) (fun c_11 => ?_) (fun c_11 => ?_)
      · replace hf := if_t c_11 hf
        refine lv_iload_n hx hb dX4_spree_55 rfl (lv_at hl 1 rfl) ?_
        refine lv_if_ne (tgt := 72) hx hb dX4_spree_56 (by decide) (fun c_12 => ?_) (fun c_12 => ?_)
        · replace hf := if_f c_12 hf
          refine lv_aload_n hx hb dX4_spree_72 rfl (lv_at hl 0 rfl) ?_
          refine va_get (D := D) (ci := 4) (v := .ref (A 10)) (C := RX4) (T := TX4) (N := 8) hx hb hts hw4 hown hK hP 0 cX_at0 rfl 1 (by decide) k16 (fun _ h9 => h9) rfl dX4_spree_73 ?_
          refine va_get (D := D) (ci := 0) (v := .int (q29.2 16 2)) (C := RX0) (T := TX0) (N := 12) hx hb hts hw0 hown hK hP 10 cX_at10 rfl 9 (by decide) k168 (fun _ h9 => h9) rfl dX4_spree_76 ?_
          exact hend ((q29.2 16 2), q29.2, q) H locs _ _ hf hP hS dX4_spree_79
        · replace hf := if_t c_12 hf
          refine lv_aload_n hx hb dX4_spree_59 rfl (lv_at hl 0 rfl) ?_
          refine va_get (D := D) (ci := 4) (v := .ref (A 10)) (C := RX4) (T := TX4) (N := 8) hx hb hts hw4 hown hK hP 0 cX_at0 rfl 1 (by decide) k16 (fun _ h9 => h9) rfl dX4_spree_60 ?_
          obtain ⟨a_13, ha_13, hf⟩ := bd_e hf
          refine Ct.callV (As := []) (rest := []) (st1 := [.int a_13]) (c_X0_outBits l D cI (fun j => A (10 + j)) q29.2 a_13 ha_13) hx hb hml hown hts (cwV 0 hts gX4_spree_X0_outBits rfl rfl rfl hd_X0_outBits ⟨Nat.le_of_ble_eq_true rfl, Nat.le_of_ble_eq_true rfl⟩) (va_recv hK hP (ci := 0) (q0 := 10) rfl cX_at10) ln_X_H_t hA hK hP hD hS rfl hl.1 rfl rfl (Nat.le_of_ble_eq_true rfl) dX4_spree_63 (fun H locs hP hD hS => ?_)
          obtain ⟨a_14, ha_14, hf⟩ := bd_e hf
          refine Ct.callS (As := [.int a_13]) (rest := []) (st1 := [.int a_14]) (c_J6_bitCount_0f7a4 l D cI  a_13 a_14 ha_14) hx hb hml hown hts (va_cwS 1 hts gX4_spree_J6_bitCount_0f7a4 rfl rfl rfl hd_J6_bitCount_0f7a4 ⟨Nat.le_of_ble_eq_true rfl, Nat.le_of_ble_eq_true rfl⟩) Ln.nil hA hK hP hD hS rfl hl.1 rfl rfl (Nat.le_of_ble_eq_true rfl) dX4_spree_66 (fun H locs hP hD hS => ?_)
          refine lv_goto (tgt := 79) hx hb dX4_spree_69 (by decide) ?_
          exact hend (a_14, q29.2, q) H locs _ _ hf hP hS dX4_spree_79
      · replace hf := if_f c_11 hf
        refine lv_aload_n hx hb dX4_spree_40 rfl (lv_at hl 0 rfl) ?_
        refine va_get (D := D) (ci := 4) (v := .ref (A 10)) (C := RX4) (T := TX4) (N := 8) hx hb hts hw4 hown hK hP 0 cX_at0 rfl 1 (by decide) k16 (fun _ h9 => h9) rfl dX4_spree_41 ?_
        refine lv_iload_n hx hb dX4_spree_44 rfl (lv_at hl 2 rfl) ?_
        obtain ⟨a_15, ha_15, hf⟩ := bd_e hf
        refine Ct.callV (As := [.int q29.1]) (rest := []) (st1 := [.int a_15.1]) (c_X0_word l D cI (fun j => A (10 + j)) q29.2 q29.1 a_15 ha_15) hx hb hml hown hts (cwV 1 hts gX4_spree_X0_word rfl rfl rfl hd_X0_word ⟨Nat.le_of_ble_eq_true rfl, Nat.le_of_ble_eq_true rfl⟩) (va_recv hK hP (ci := 0) (q0 := 10) rfl cX_at10) ln_X_H_t hA hK hP hD hS rfl hl.1 rfl rfl (Nat.le_of_ble_eq_true rfl) dX4_spree_45 (fun H locs hP hD hS => ?_)
        replace hP : va_P D vwCl (cX cI A n a_15.2 k g w z q) H := hP
        replace hD : va_D AA (cX cI A n a_15.2 k g w z q) := hD
        refine lv_pop hx hb dX4_spree_48 rfl ?_
        obtain ⟨v_16, ev_16, hf⟩ := nm_e hf
        refine lv_iinc (v := v_16) (lv' := [(2, .int v_16), (0, .ref (A 0)), (1, .int p1)]) hx hb dX4_spree_49 hl (k := 2) rfl (by rw [ev_16]; rfl) (by decide) rfl (fun ls hl => ?_)
        refine lv_goto (tgt := 29) hx hb dX4_spree_52 (by decide) ?_
        exact ih29 (v_16, a_15.2) hf H locs ls hP hD hS (lv_sub hl [1, 2, 0] rfl)
    · replace hf := if_f c_9 hf
      refine lv_aload_n hx hb dX4_spree_9 rfl (lv_at hl 0 rfl) ?_
      refine lv_bipush (v := -2) hx hb dX4_spree_10 (by decide +kernel) ?_
      obtain ⟨a_17, ha_17, hf⟩ := bd_e hf
      refine Ct.callV (As := [.int (-2 : Int32)]) (rest := []) (st1 := [.int a_17.1]) (c_X4_refused l D cI A n t k g w z q (-2 : Int32) a_17 ha_17) hx hb hml hown hts (cwV 1 hts gX4_spree_X4_refused rfl rfl rfl hd_X4_refused ⟨Nat.le_of_ble_eq_true rfl, Nat.le_of_ble_eq_true rfl⟩) (va_recv hK hP (ci := 4) (q0 := 0) rfl cX_at0) (Ln.id rfl) hA hK hP hD hS rfl hl.1 rfl rfl (Nat.le_of_ble_eq_true rfl) dX4_spree_12 (fun H locs hP hD hS => ?_)
      replace hP : va_P D vwCl (cX cI A n t k g w z a_17.2) H := hP
      replace hD : va_D AA (cX cI A n t k g w z a_17.2) := hD
      exact hend (a_17.1, t, a_17.2) H locs _ _ hf hP hS dX4_spree_15

def f_X4_lacksBehindWord (n : St) (t : St) (k : St) (g : St) (w : St) (z : St) (q : St) (p1 : Int32) (p2 : Int32) : Option (Int32 × St) := (bd (f_X0_copyFrom t n) fun a_1 => (bd (f_X0_passTides a_1 p2) fun a_2 => (bd (f_X0_word a_2 p1) fun a_3 => (gi p1 8 (bd (f_X0_lacks a_3.2 (a_3.2 7 (p1).toNatClampNeg)) fun a_5 => (some (a_5, a_3.2)))))))
def rm_X4_lacksBehindWord : Room := { frames := 4, cells := 0, slots := 0, locals := 89 }
theorem hd_X4_lacksBehindWord : yX4_lacksBehindWord.cls = RX4 ∧ yX4_lacksBehindWord.cls ≠ "java/lang/invoke/MethodHandle" ∧ yX4_lacksBehindWord.cls ≠ "java/lang/invoke/VarHandle" ∧ (parseMethodDescriptor yX4_lacksBehindWord.desc).map (fun d => d.parameters.length) = some 2 := by decide +kernel
set_option maxRecDepth 100000 in
set_option maxHeartbeats 4000000 in
theorem c_X4_lacksBehindWord (l : Launch) (D : va_G) (cI : ClassId) (A : Nat → Nat) (n : St) (t : St) (k : St) (g : St) (w : St) (z : St) (q : St) (p1 : Int32) (p2 : Int32) (r : Int32 × St) (hf : f_X4_lacksBehindWord n t k g w z q p1 p2 = some r) : Ct l yX4_lacksBehindWord wsX4_lacksBehindWord rm_X4_lacksBehindWord D cI (cX cI A n t k g w z q) (cX cI A n r.2 k g w z q) [.ref (A 0), .int p1, .int p2] (some (.int r.1)) := by
  unfold f_X4_lacksBehindWord at hf
  refine Ct.ofI (cc := cX4_lacksBehindWord) (maxL := 3) (by decide +kernel) rfl (Nat.le_of_ble_eq_true rfl) ?_
  intro p e s m args below meth c AA Q H locs ls hx hb hml hown hts hA hK hP hD hS hl hend0
  have hend : ∀ (r1 : Int32 × St) (H : Heap) (locs : List Loc) (pc : Nat) (ls : Array Slot), some r1 = some r → va_P D vwCl (cX cI A n r1.2 k g w z q) H → va_S AA s.heap H locs → decode cX4_lacksBehindWord pc = .ok (.ireturn, 1) → W p l e rm_X4_lacksBehindWord s m args below meth c H locs 0 0 Q (F0 m pc ls [.int r1.1]) := by
    intro r1 H locs pc ls e1 hP hS hd; cases e1; exact hend0 H locs pc ls hP hS hd
  clear hend0
  have hw0 : ∀ w ∈ wsX00, w ∈ wsX4_lacksBehindWord := by decide +kernel
  have hw4 : ∀ w ∈ wsX40, w ∈ wsX4_lacksBehindWord := by decide +kernel
  have k10 := hts (.fieldLink RX4 10 "AnchorsForConfession" "now" "LAnchorsForConfession$Harbour;") (by decide +kernel)
  have k16 := hts (.fieldLink RX4 16 "AnchorsForConfession" "thought" "LAnchorsForConfession$Harbour;") (by decide +kernel)
  have k86 := hts (.fieldLink RX4 86 "AnchorsForConfession$Harbour" "aboard" "[I") (by decide +kernel)
  replace hl : lv_has ls 3 [(0, .ref (A 0)), (1, .int p1), (2, .int p2)] := hl
  refine lv_aload_n hx hb dX4_lacksBehindWord_0 rfl (lv_at hl 0 rfl) ?_
  refine va_get (D := D) (ci := 4) (v := .ref (A 10)) (C := RX4) (T := TX4) (N := 8) hx hb hts hw4 hown hK hP 0 cX_at0 rfl 1 (by decide) k16 (fun _ h9 => h9) rfl dX4_lacksBehindWord_1 ?_
  refine lv_aload_n hx hb dX4_lacksBehindWord_4 rfl (lv_at hl 0 rfl) ?_
  refine va_get (D := D) (ci := 4) (v := .ref (A 1)) (C := RX4) (T := TX4) (N := 8) hx hb hts hw4 hown hK hP 0 cX_at0 rfl 0 (by decide) k10 (fun _ h9 => h9) rfl dX4_lacksBehindWord_5 ?_
  obtain ⟨a_1, ha_1, hf⟩ := bd_e hf
  refine Ct.callV (As := [.ref (A 1)]) (rest := []) (st1 := []) (c_X0_copyFrom l D cI (fun j => A (10 + j)) (fun j => A (1 + j)) t n a_1 ha_1) hx hb hml hown hts (cwV 1 hts gX4_lacksBehindWord_X0_copyFrom rfl rfl rfl hd_X0_copyFrom ⟨Nat.le_of_ble_eq_true rfl, Nat.le_of_ble_eq_true rfl⟩) (va_recv hK hP (ci := 0) (q0 := 10) rfl cX_at10) ln_X_HH_tn hA hK hP hD hS rfl hl.1 rfl rfl (Nat.le_of_ble_eq_true rfl) dX4_lacksBehindWord_8 (fun H locs hP hD hS => ?_)
  replace hP : va_P D vwCl (cX cI A n a_1 k g w z q) H := hP
  replace hD : va_D AA (cX cI A n a_1 k g w z q) := hD
  refine lv_aload_n hx hb dX4_lacksBehindWord_11 rfl (lv_at hl 0 rfl) ?_
  refine va_get (D := D) (ci := 4) (v := .ref (A 10)) (C := RX4) (T := TX4) (N := 8) hx hb hts hw4 hown hK hP 0 cX_at0 rfl 1 (by decide) k16 (fun _ h9 => h9) rfl dX4_lacksBehindWord_12 ?_
  refine lv_iload_n hx hb dX4_lacksBehindWord_15 rfl (lv_at hl 2 rfl) ?_
  obtain ⟨a_2, ha_2, hf⟩ := bd_e hf
  refine Ct.callV (As := [.int p2]) (rest := []) (st1 := []) (c_X0_passTides l D cI (fun j => A (10 + j)) a_1 p2 a_2 ha_2) hx hb hml hown hts (cwV 1 hts gX4_lacksBehindWord_X0_passTides rfl rfl rfl hd_X0_passTides ⟨Nat.le_of_ble_eq_true rfl, Nat.le_of_ble_eq_true rfl⟩) (va_recv hK hP (ci := 0) (q0 := 10) rfl cX_at10) ln_X_H_t hA hK hP hD hS rfl hl.1 rfl rfl (Nat.le_of_ble_eq_true rfl) dX4_lacksBehindWord_16 (fun H locs hP hD hS => ?_)
  replace hP : va_P D vwCl (cX cI A n a_2 k g w z q) H := hP
  replace hD : va_D AA (cX cI A n a_2 k g w z q) := hD
  refine lv_aload_n hx hb dX4_lacksBehindWord_19 rfl (lv_at hl 0 rfl) ?_
  refine va_get (D := D) (ci := 4) (v := .ref (A 10)) (C := RX4) (T := TX4) (N := 8) hx hb hts hw4 hown hK hP 0 cX_at0 rfl 1 (by decide) k16 (fun _ h9 => h9) rfl dX4_lacksBehindWord_20 ?_
  refine lv_iload_n hx hb dX4_lacksBehindWord_23 rfl (lv_at hl 1 rfl) ?_
  obtain ⟨a_3, ha_3, hf⟩ := bd_e hf
  refine Ct.callV (As := [.int p1]) (rest := []) (st1 := [.int a_3.1]) (c_X0_word l D cI (fun j => A (10 + j)) a_2 p1 a_3 ha_3) hx hb hml hown hts (cwV 1 hts gX4_lacksBehindWord_X0_word rfl rfl rfl hd_X0_word ⟨Nat.le_of_ble_eq_true rfl, Nat.le_of_ble_eq_true rfl⟩) (va_recv hK hP (ci := 0) (q0 := 10) rfl cX_at10) ln_X_H_t hA hK hP hD hS rfl hl.1 rfl rfl (Nat.le_of_ble_eq_true rfl) dX4_lacksBehindWord_24 (fun H locs hP hD hS => ?_)
  replace hP : va_P D vwCl (cX cI A n a_3.2 k g w z q) H := hP
  replace hD : va_D AA (cX cI A n a_3.2 k g w z q) := hD
  refine lv_pop hx hb dX4_lacksBehindWord_27 rfl ?_
  refine lv_aload_n hx hb dX4_lacksBehindWord_28 rfl (lv_at hl 0 rfl) ?_
  refine va_get (D := D) (ci := 4) (v := .ref (A 10)) (C := RX4) (T := TX4) (N := 8) hx hb hts hw4 hown hK hP 0 cX_at0 rfl 1 (by decide) k16 (fun _ h9 => h9) rfl dX4_lacksBehindWord_29 ?_
  refine lv_aload_n hx hb dX4_lacksBehindWord_32 rfl (lv_at hl 0 rfl) ?_
  refine va_get (D := D) (ci := 4) (v := .ref (A 10)) (C := RX4) (T := TX4) (N := 8) hx hb hts hw4 hown hK hP 0 cX_at0 rfl 1 (by decide) k16 (fun _ h9 => h9) rfl dX4_lacksBehindWord_33 ?_
  refine va_get (D := D) (ci := 0) (v := .ref (A 17)) (C := RX0) (T := TX0) (N := 12) hx hb hts hw0 hown hK hP 10 cX_at10 rfl 8 (by decide) k86 (fun _ h9 => h9) rfl dX4_lacksBehindWord_36 ?_
  refine lv_iload_n hx hb dX4_lacksBehindWord_39 rfl (lv_at hl 1 rfl) ?_
  obtain ⟨c_4, hf⟩ := gi_e hf
  refine va_iald hx hb hK hP 17 0 cX_at17 rfl c_4 dX4_lacksBehindWord_40 ?_
  obtain ⟨a_5, ha_5, hf⟩ := bd_e hf
  refine Ct.callV (As := [.int (a_3.2 7 (p1).toNatClampNeg)]) (rest := []) (st1 := [.int a_5]) (c_X0_lacks l D cI (fun j => A (10 + j)) a_3.2 (a_3.2 7 (p1).toNatClampNeg) a_5 ha_5) hx hb hml hown hts (cwV 1 hts gX4_lacksBehindWord_X0_lacks rfl rfl rfl hd_X0_lacks ⟨Nat.le_of_ble_eq_true rfl, Nat.le_of_ble_eq_true rfl⟩) (va_recv hK hP (ci := 0) (q0 := 10) rfl cX_at10) ln_X_H_t hA hK hP hD hS rfl hl.1 rfl rfl (Nat.le_of_ble_eq_true rfl) dX4_lacksBehindWord_41 (fun H locs hP hD hS => ?_)
  exact hend (a_5, a_3.2) H locs _ _ hf hP hS dX4_lacksBehindWord_44

def f_X4_keep (n : St) (t : St) (k : St) (g : St) (w : St) (z : St) (q : St) (p1 : Int32) : Option (Int32 × St × St) := (bd (f_X0_hasMan n p1) fun a_1 => (if a_1 = 0 then (bd (f_X4_refused n t k g w z q (-1 : Int32)) fun a_9 => (some (a_9.1, t, a_9.2))) else (bd (f_X0_canTell n p1) fun a_3 => (if a_3 = 0 then (bd (f_X4_refused n t k g w z q (-3 : Int32)) fun a_8 => (some (a_8.1, t, a_8.2))) else (bd (f_X4_lacksBehindWord n t k g w z q p1 (0 : Int32)) fun a_5 => (bd (f_X4_lacksBehindWord n a_5.2 k g w z q p1 (1 : Int32)) fun a_6 => (if a_6.1 < a_5.1 then (some ((0 : Int32), a_6.2, q)) else (some ((1 : Int32), a_6.2, q)))))))))
def rm_X4_keep : Room := { frames := 5, cells := 0, slots := 0, locals := 111 }
theorem hd_X4_keep : yX4_keep.cls = RX4 ∧ yX4_keep.cls ≠ "java/lang/invoke/MethodHandle" ∧ yX4_keep.cls ≠ "java/lang/invoke/VarHandle" ∧ (parseMethodDescriptor yX4_keep.desc).map (fun d => d.parameters.length) = some 1 := by decide +kernel
set_option maxRecDepth 100000 in
set_option maxHeartbeats 4000000 in
theorem c_X4_keep (l : Launch) (D : va_G) (cI : ClassId) (A : Nat → Nat) (n : St) (t : St) (k : St) (g : St) (w : St) (z : St) (q : St) (p1 : Int32) (r : Int32 × St × St) (hf : f_X4_keep n t k g w z q p1 = some r) : Ct l yX4_keep wsX4_keep rm_X4_keep D cI (cX cI A n t k g w z q) (cX cI A n r.2.1 k g w z r.2.2) [.ref (A 0), .int p1] (some (.int r.1)) := by
  unfold f_X4_keep at hf
  refine Ct.ofI (cc := cX4_keep) (maxL := 2) (by decide +kernel) rfl (Nat.le_of_ble_eq_true rfl) ?_
  intro p e s m args below meth c AA Q H locs ls hx hb hml hown hts hA hK hP hD hS hl hend0
  have hend : ∀ (r1 : Int32 × St × St) (H : Heap) (locs : List Loc) (pc : Nat) (ls : Array Slot), some r1 = some r → va_P D vwCl (cX cI A n r1.2.1 k g w z r1.2.2) H → va_S AA s.heap H locs → decode cX4_keep pc = .ok (.ireturn, 1) → W p l e rm_X4_keep s m args below meth c H locs 0 0 Q (F0 m pc ls [.int r1.1]) := by
    intro r1 H locs pc ls e1 hP hS hd; cases e1; exact hend0 H locs pc ls hP hS hd
  clear hend0
  have hw4 : ∀ w ∈ wsX40, w ∈ wsX4_keep := by decide +kernel
  have k10 := hts (.fieldLink RX4 10 "AnchorsForConfession" "now" "LAnchorsForConfession$Harbour;") (by decide +kernel)
  replace hl : lv_has ls 2 [(0, .ref (A 0)), (1, .int p1)] := hl
  refine lv_aload_n hx hb dX4_keep_0 rfl (lv_at hl 0 rfl) ?_
  refine va_get (D := D) (ci := 4) (v := .ref (A 1)) (C := RX4) (T := TX4) (N := 8) hx hb hts hw4 hown hK hP 0 cX_at0 rfl 0 (by decide) k10 (fun _ h9 => h9) rfl dX4_keep_1 ?_
  refine lv_iload_n hx hb dX4_keep_4 rfl (lv_at hl 1 rfl) ?_
  obtain ⟨a_1, ha_1, hf⟩ := bd_e hf
  refine Ct.callV (As := [.int p1]) (rest := []) (st1 := [.int a_1]) (c_X0_hasMan l D cI (fun j => A (1 + j)) n p1 a_1 ha_1) hx hb hml hown hts (cwV 1 hts gX4_keep_X0_hasMan rfl rfl rfl hd_X0_hasMan ⟨Nat.le_of_ble_eq_true rfl, Nat.le_of_ble_eq_true rfl⟩) (va_recv hK hP (ci := 0) (q0 := 1) rfl cX_at1) ln_X_H_n hA hK hP hD hS rfl hl.1 rfl rfl (Nat.le_of_ble_eq_true rfl) dX4_keep_5 (fun H locs hP hD hS => ?_)
  refine lv_if_ne (tgt := 17) hx hb dX4_keep_8 (by decide) (fun c_2 => ?_) (fun c_2 => ?_)
  · replace hf := if_f c_2 hf
    refine lv_aload_n hx hb dX4_keep_17 rfl (lv_at hl 0 rfl) ?_
    refine va_get (D := D) (ci := 4) (v := .ref (A 1)) (C := RX4) (T := TX4) (N := 8) hx hb hts hw4 hown hK hP 0 cX_at0 rfl 0 (by decide) k10 (fun _ h9 => h9) rfl dX4_keep_18 ?_
    refine lv_iload_n hx hb dX4_keep_21 rfl (lv_at hl 1 rfl) ?_
    obtain ⟨a_3, ha_3, hf⟩ := bd_e hf
    refine Ct.callV (As := [.int p1]) (rest := []) (st1 := [.int a_3]) (c_X0_canTell l D cI (fun j => A (1 + j)) n p1 a_3 ha_3) hx hb hml hown hts (cwV 1 hts gX4_keep_X0_canTell rfl rfl rfl hd_X0_canTell ⟨Nat.le_of_ble_eq_true rfl, Nat.le_of_ble_eq_true rfl⟩) (va_recv hK hP (ci := 0) (q0 := 1) rfl cX_at1) ln_X_H_n hA hK hP hD hS rfl hl.1 rfl rfl (Nat.le_of_ble_eq_true rfl) dX4_keep_22 (fun H locs hP hD hS => ?_)
    refine lv_if_ne (tgt := 35) hx hb dX4_keep_25 (by decide) (fun c_4 => ?_) (fun c_4 => ?_)
    · replace hf := if_f c_4 hf
      refine lv_aload_n hx hb dX4_keep_35 rfl (lv_at hl 0 rfl) ?_
      refine lv_iload_n hx hb dX4_keep_36 rfl (lv_at hl 1 rfl) ?_
      refine lv_iconst (v := 0) hx hb dX4_keep_37 (by decide) ?_
      obtain ⟨a_5, ha_5, hf⟩ := bd_e hf
      refine Ct.callV (As := [.int p1, .int (0 : Int32)]) (rest := []) (st1 := [.int a_5.1]) (c_X4_lacksBehindWord l D cI A n t k g w z q p1 (0 : Int32) a_5 ha_5) hx hb hml hown hts (cwV 2 hts gX4_keep_X4_lacksBehindWord rfl rfl rfl hd_X4_lacksBehindWord ⟨Nat.le_of_ble_eq_true rfl, Nat.le_of_ble_eq_true rfl⟩) (va_recv hK hP (ci := 4) (q0 := 0) rfl cX_at0) (Ln.id rfl) hA hK hP hD hS rfl hl.1 rfl rfl (Nat.le_of_ble_eq_true rfl) dX4_keep_38 (fun H locs hP hD hS => ?_)
      replace hP : va_P D vwCl (cX cI A n a_5.2 k g w z q) H := hP
      replace hD : va_D AA (cX cI A n a_5.2 k g w z q) := hD
      refine lv_aload_n hx hb dX4_keep_41 rfl (lv_at hl 0 rfl) ?_
      refine lv_iload_n hx hb dX4_keep_42 rfl (lv_at hl 1 rfl) ?_
      refine lv_iconst (v := 1) hx hb dX4_keep_43 (by decide) ?_
      obtain ⟨a_6, ha_6, hf⟩ := bd_e hf
      refine Ct.callV (As := [.int p1, .int (1 : Int32)]) (rest := [.int a_5.1]) (st1 := [.int a_6.1, .int a_5.1]) (c_X4_lacksBehindWord l D cI A n a_5.2 k g w z q p1 (1 : Int32) a_6 ha_6) hx hb hml hown hts (cwV 2 hts gX4_keep_X4_lacksBehindWord rfl rfl rfl hd_X4_lacksBehindWord ⟨Nat.le_of_ble_eq_true rfl, Nat.le_of_ble_eq_true rfl⟩) (va_recv hK hP (ci := 4) (q0 := 0) rfl cX_at0) (Ln.id rfl) hA hK hP hD hS rfl hl.1 rfl rfl (Nat.le_of_ble_eq_true rfl) dX4_keep_44 (fun H locs hP hD hS => ?_)
      replace hP : va_P D vwCl (cX cI A n a_6.2 k g w z q) H := hP
      replace hD : va_D AA (cX cI A n a_6.2 k g w z q) := hD
      refine lv_icmp_gt (tgt := 54) hx hb dX4_keep_47 (by decide) (fun c_7 => ?_) (fun c_7 => ?_)
      · replace hf := if_t c_7 hf
        refine lv_iconst (v := 0) hx hb dX4_keep_54 (by decide) ?_
        exact hend ((0 : Int32), a_6.2, q) H locs _ _ hf hP hS dX4_keep_55
      · replace hf := if_f c_7 hf
        refine lv_iconst (v := 1) hx hb dX4_keep_50 (by decide) ?_
        refine lv_goto (tgt := 55) hx hb dX4_keep_51 (by decide) ?_
        exact hend ((1 : Int32), a_6.2, q) H locs _ _ hf hP hS dX4_keep_55
    · replace hf := if_t c_4 hf
      refine lv_aload_n hx hb dX4_keep_28 rfl (lv_at hl 0 rfl) ?_
      refine lv_bipush (v := -3) hx hb dX4_keep_29 (by decide +kernel) ?_
      obtain ⟨a_8, ha_8, hf⟩ := bd_e hf
      refine Ct.callV (As := [.int (-3 : Int32)]) (rest := []) (st1 := [.int a_8.1]) (c_X4_refused l D cI A n t k g w z q (-3 : Int32) a_8 ha_8) hx hb hml hown hts (cwV 1 hts gX4_keep_X4_refused rfl rfl rfl hd_X4_refused ⟨Nat.le_of_ble_eq_true rfl, Nat.le_of_ble_eq_true rfl⟩) (va_recv hK hP (ci := 4) (q0 := 0) rfl cX_at0) (Ln.id rfl) hA hK hP hD hS rfl hl.1 rfl rfl (Nat.le_of_ble_eq_true rfl) dX4_keep_31 (fun H locs hP hD hS => ?_)
      replace hP : va_P D vwCl (cX cI A n t k g w z a_8.2) H := hP
      replace hD : va_D AA (cX cI A n t k g w z a_8.2) := hD
      exact hend (a_8.1, t, a_8.2) H locs _ _ hf hP hS dX4_keep_34
  · replace hf := if_t c_2 hf
    refine lv_aload_n hx hb dX4_keep_11 rfl (lv_at hl 0 rfl) ?_
    refine lv_iconst (v := -1) hx hb dX4_keep_12 (by decide) ?_
    obtain ⟨a_9, ha_9, hf⟩ := bd_e hf
    refine Ct.callV (As := [.int (-1 : Int32)]) (rest := []) (st1 := [.int a_9.1]) (c_X4_refused l D cI A n t k g w z q (-1 : Int32) a_9 ha_9) hx hb hml hown hts (cwV 1 hts gX4_keep_X4_refused rfl rfl rfl hd_X4_refused ⟨Nat.le_of_ble_eq_true rfl, Nat.le_of_ble_eq_true rfl⟩) (va_recv hK hP (ci := 4) (q0 := 0) rfl cX_at0) (Ln.id rfl) hA hK hP hD hS rfl hl.1 rfl rfl (Nat.le_of_ble_eq_true rfl) dX4_keep_13 (fun H locs hP hD hS => ?_)
    replace hP : va_P D vwCl (cX cI A n t k g w z a_9.2) H := hP
    replace hD : va_D AA (cX cI A n t k g w z a_9.2) := hD
    exact hend (a_9.1, t, a_9.2) H locs _ _ hf hP hS dX4_keep_16

def f_X4_richest (n : St) (t : St) (k : St) (g : St) (w : St) (z : St) (q : St) (p1 : Int32) : Option (Int32 × St) := (if p1 = 0 then (lp (fun (nx24 : (Int32 × Int32 × Int32) → Option (Int32 × St)) (q24 : Int32 × Int32 × Int32) => (if (n 16 1) ≤ q24.2.2 then (some (q24.1, q)) else (if p1 = 0 then (gi q24.2.2 8 (nm (n 6 (q24.2.2).toNatClampNeg) fun v_9 => (if v_9 ≤ q24.2.1 then (nm (q24.2.2 + (1 : Int32)) fun v_11 => (nx24 (q24.1, q24.2.1, v_11))) else (nm (q24.2.2 + (1 : Int32)) fun v_12 => (nx24 (q24.2.2, v_9, v_12)))))) else (bd (f_X0_worth n q24.2.2) fun a_4 => (if a_4 ≤ q24.2.1 then (nm (q24.2.2 + (1 : Int32)) fun v_6 => (nx24 (q24.1, q24.2.1, v_6))) else (nm (q24.2.2 + (1 : Int32)) fun v_7 => (nx24 (q24.2.2, a_4, v_7)))))))) 1000 ((-9 : Int32), (-1 : Int32), (0 : Int32))) else (if p1 = (1 : Int32) then (lp (fun (nx24 : (Int32 × Int32 × Int32) → Option (Int32 × St)) (q24 : Int32 × Int32 × Int32) => (if (n 16 1) ≤ q24.2.2 then (some (q24.1, q)) else (if p1 = 0 then (gi q24.2.2 8 (nm (n 6 (q24.2.2).toNatClampNeg) fun v_21 => (if v_21 ≤ q24.2.1 then (nm (q24.2.2 + (1 : Int32)) fun v_23 => (nx24 (q24.1, q24.2.1, v_23))) else (nm (q24.2.2 + (1 : Int32)) fun v_24 => (nx24 (q24.2.2, v_21, v_24)))))) else (bd (f_X0_worth n q24.2.2) fun a_16 => (if a_16 ≤ q24.2.1 then (nm (q24.2.2 + (1 : Int32)) fun v_18 => (nx24 (q24.1, q24.2.1, v_18))) else (nm (q24.2.2 + (1 : Int32)) fun v_19 => (nx24 (q24.2.2, a_16, v_19)))))))) 1000 ((-9 : Int32), (-1 : Int32), (0 : Int32))) else (bd (f_X4_refused n t k g w z q (-2 : Int32)) fun a_25 => (some (a_25.1, a_25.2)))))
def rm_X4_richest : Room := { frames := 2, cells := 0, slots := 0, locals := 44 }
theorem hd_X4_richest : yX4_richest.cls = RX4 ∧ yX4_richest.cls ≠ "java/lang/invoke/MethodHandle" ∧ yX4_richest.cls ≠ "java/lang/invoke/VarHandle" ∧ (parseMethodDescriptor yX4_richest.desc).map (fun d => d.parameters.length) = some 1 := by decide +kernel
set_option maxRecDepth 100000 in
set_option maxHeartbeats 4000000 in
theorem c_X4_richest (l : Launch) (D : va_G) (cI : ClassId) (A : Nat → Nat) (n : St) (t : St) (k : St) (g : St) (w : St) (z : St) (q : St) (p1 : Int32) (r : Int32 × St) (hf : f_X4_richest n t k g w z q p1 = some r) : Ct l yX4_richest wsX4_richest rm_X4_richest D cI (cX cI A n t k g w z q) (cX cI A n t k g w z r.2) [.ref (A 0), .int p1] (some (.int r.1)) := by
  unfold f_X4_richest at hf
  refine Ct.ofI (cc := cX4_richest) (maxL := 6) (by decide +kernel) rfl (Nat.le_of_ble_eq_true rfl) ?_
  intro p e s m args below meth c AA Q H locs ls hx hb hml hown hts hA hK hP hD hS hl hend0
  have hend : ∀ (r1 : Int32 × St) (H : Heap) (locs : List Loc) (pc : Nat) (ls : Array Slot), some r1 = some r → va_P D vwCl (cX cI A n t k g w z r1.2) H → va_S AA s.heap H locs → decode cX4_richest pc = .ok (.ireturn, 1) → W p l e rm_X4_richest s m args below meth c H locs 0 0 Q (F0 m pc ls [.int r1.1]) := by
    intro r1 H locs pc ls e1 hP hS hd; cases e1; exact hend0 H locs pc ls hP hS hd
  clear hend0
  have hw0 : ∀ w ∈ wsX00, w ∈ wsX4_richest := by decide +kernel
  have hw4 : ∀ w ∈ wsX40, w ∈ wsX4_richest := by decide +kernel
  have k10 := hts (.fieldLink RX4 10 "AnchorsForConfession" "now" "LAnchorsForConfession$Harbour;") (by decide +kernel)
  have k89 := hts (.fieldLink RX4 89 "AnchorsForConfession$Harbour" "sinsOf" "[I") (by decide +kernel)
  have k158 := hts (.fieldLink RX4 158 "AnchorsForConfession$Harbour" "men" "I") (by decide +kernel)
  replace hl : lv_has ls 6 [(0, .ref (A 0)), (1, .int p1)] := hl
  refine lv_iload_n hx hb dX4_richest_0 rfl (lv_at hl 1 rfl) ?_
  refine lv_if_eq (tgt := 16) hx hb dX4_richest_1 (by decide) (fun c_1 => ?_) (fun c_1 => ?_)
  · replace hf := if_t c_1 hf
    refine lv_bipush (v := -9) hx hb dX4_richest_16 (by decide +kernel) ?_
    refine lv_istore_n (lv' := [(2, .int (-9 : Int32)), (0, .ref (A 0)), (1, .int p1)]) hx hb dX4_richest_18 rfl hl (by decide) rfl (fun ls hl => ?_)
    refine lv_iconst (v := -1) hx hb dX4_richest_19 (by decide) ?_
    refine lv_istore_n (lv' := [(3, .int (-1 : Int32)), (2, .int (-9 : Int32)), (0, .ref (A 0)), (1, .int p1)]) hx hb dX4_richest_20 rfl hl (by decide) rfl (fun ls hl => ?_)
    refine lv_iconst (v := 0) hx hb dX4_richest_21 (by decide) ?_
    refine lv_istore (lv' := [(4, .int (0 : Int32)), (3, .int (-1 : Int32)), (2, .int (-9 : Int32)), (0, .ref (A 0)), (1, .int p1)]) hx hb dX4_richest_22 hl (by decide) rfl (fun ls hl => ?_)
    refine lp_ind (P := fun (q24 : Int32 × Int32 × Int32) => ∀ (H : Heap) (locs : List Loc) (ls : Array Slot), va_P D vwCl (cX cI A n t k g w z q) H → va_D AA (cX cI A n t k g w z q) → va_S AA s.heap H locs → lv_has ls 6 [(0, .ref (A 0)), (1, .int p1), (2, .int q24.1), (3, .int q24.2.1), (4, .int q24.2.2)] → W p l e rm_X4_richest s m args below meth c H locs 0 0 Q (F0 m 24 ls [])) hf ?_ H locs ls hP hD hS (lv_sub hl [3, 4, 2, 1, 0] rfl)
    clear hf hP hD hS hl
    intro nx24 ih24 q24 hf H locs ls hP hD hS hl
    refine lv_iload hx hb dX4_richest_24 (lv_at hl 4 rfl) ?_
    refine lv_aload_n hx hb dX4_richest_26 rfl (lv_at hl 0 rfl) ?_
    refine va_get (D := D) (ci := 4) (v := .ref (A 1)) (C := RX4) (T := TX4) (N := 8) hx hb hts hw4 hown hK hP 0 cX_at0 rfl 0 (by decide) k10 (fun _ h9 => h9) rfl dX4_richest_27 ?_
    refine va_get (D := D) (ci := 0) (v := .int (n 16 1)) (C := RX0) (T := TX0) (N := 12) hx hb hts hw0 hown hK hP 1 cX_at1 rfl 4 (by decide) k158 (fun _ h9 => h9) rfl dX4_richest_30 ?_
    refine lv_icmp_ge (tgt := 82) hx hb dX4_richest_33 (by decide) (fun c_2 => ?_) (fun c_2 => ?_)
    · replace hf := if_t c_2 hf
      refine lv_iload_n hx hb dX4_richest_82 rfl (lv_at hl 2 rfl) ?_
      exact hend (q24.1, q) H locs _ _ hf hP hS dX4_richest_83
    · replace hf := if_f c_2 hf
      refine lv_iload_n hx hb dX4_richest_36 rfl (lv_at hl 1 rfl) ?_
      refine lv_if_ne (tgt := 53) hx hb dX4_richest_37 (by decide) (fun c_3 => ?_) (fun c_3 => ?_)
      · replace hf := if_f c_3 hf
        refine lv_aload_n hx hb dX4_richest_53 rfl (lv_at hl 0 rfl) ?_
        refine va_get (D := D) (ci := 4) (v := .ref (A 1)) (C := RX4) (T := TX4) (N := 8) hx hb hts hw4 hown hK hP 0 cX_at0 rfl 0 (by decide) k10 (fun _ h9 => h9) rfl dX4_richest_54 ?_
        refine lv_iload hx hb dX4_richest_57 (lv_at hl 4 rfl) ?_
        obtain ⟨a_4, ha_4, hf⟩ := bd_e hf
        refine Ct.callV (As := [.int q24.2.2]) (rest := []) (st1 := [.int a_4]) (c_X0_worth l D cI (fun j => A (1 + j)) n q24.2.2 a_4 ha_4) hx hb hml hown hts (cwV 1 hts gX4_richest_X0_worth rfl rfl rfl hd_X0_worth ⟨Nat.le_of_ble_eq_true rfl, Nat.le_of_ble_eq_true rfl⟩) (va_recv hK hP (ci := 0) (q0 := 1) rfl cX_at1) ln_X_H_n hA hK hP hD hS rfl hl.1 rfl rfl (Nat.le_of_ble_eq_true rfl) dX4_richest_59 (fun H locs hP hD hS => ?_)
        refine lv_istore (lv' := [(5, .int a_4), (0, .ref (A 0)), (1, .int p1), (2, .int q24.1), (3, .int q24.2.1), (4, .int q24.2.2)]) hx hb dX4_richest_62 hl (by decide) rfl (fun ls hl => ?_)
        refine lv_iload hx hb dX4_richest_64 (lv_at hl 0 rfl) ?_
        refine lv_iload_n hx hb dX4_richest_66 rfl (lv_at hl 4 rfl) ?_
        refine lv_icmp_le (tgt := 76) hx hb dX4_richest_67 (by decide) (fun c_5 => ?_) (fun c_5 => ?_)
        · replace hf := if_t c_5 hf
          obtain ⟨v_6, ev_6, hf⟩ := nm_e hf
          refine lv_iinc (v := v_6) (lv' := [(4, .int v_6), (5, .int a_4), (0, .ref (A 0)), (1, .int p1), (2, .int q24.1), (3, .int q24.2.1)]) hx hb dX4_richest_76 hl (k := 5) rfl (by rw [ev_6]; rfl) (by decide) rfl (fun ls hl => ?_)
          refine lv_goto (tgt := 24) hx hb dX4_richest_79 (by decide) ?_
          exact ih24 (q24.1, q24.2.1, v_6) hf H locs ls hP hD hS (lv_sub hl [2, 3, 4, 5, 0] rfl)
        · replace hf := if_f c_5 hf
          refine lv_iload hx hb dX4_richest_70 (lv_at hl 0 rfl) ?_
          refine lv_istore_n (lv' := [(3, .int a_4), (5, .int a_4), (0, .ref (A 0)), (1, .int p1), (2, .int q24.1), (4, .int q24.2.2)]) hx hb dX4_richest_72 rfl hl (by decide) rfl (fun ls hl => ?_)
          refine lv_iload hx hb dX4_richest_73 (lv_at hl 5 rfl) ?_
          refine lv_istore_n (lv' := [(2, .int q24.2.2), (3, .int a_4), (5, .int a_4), (0, .ref (A 0)), (1, .int p1), (4, .int q24.2.2)]) hx hb dX4_richest_75 rfl hl (by decide) rfl (fun ls hl => ?_)
          obtain ⟨v_7, ev_7, hf⟩ := nm_e hf
          refine lv_iinc (v := v_7) (lv' := [(4, .int v_7), (2, .int q24.2.2), (3, .int a_4), (5, .int a_4), (0, .ref (A 0)), (1, .int p1)]) hx hb dX4_richest_76 hl (k := 5) rfl (by rw [ev_7]; rfl) (by decide) rfl (fun ls hl => ?_)
          refine lv_goto (tgt := 24) hx hb dX4_richest_79 (by decide) ?_
          exact ih24 (q24.2.2, a_4, v_7) hf H locs ls hP hD hS (lv_sub hl [4, 5, 1, 2, 0] rfl)
      · replace hf := if_t c_3 hf
        refine lv_aload_n hx hb dX4_richest_40 rfl (lv_at hl 0 rfl) ?_
        refine va_get (D := D) (ci := 4) (v := .ref (A 1)) (C := RX4) (T := TX4) (N := 8) hx hb hts hw4 hown hK hP 0 cX_at0 rfl 0 (by decide) k10 (fun _ h9 => h9) rfl dX4_richest_41 ?_
        refine va_get (D := D) (ci := 0) (v := .ref (A 7)) (C := RX0) (T := TX0) (N := 12) hx hb hts hw0 hown hK hP 1 cX_at1 rfl 7 (by decide) k89 (fun _ h9 => h9) rfl dX4_richest_44 ?_
        refine lv_iload hx hb dX4_richest_47 (lv_at hl 4 rfl) ?_
        obtain ⟨c_8, hf⟩ := gi_e hf
        refine va_iald hx hb hK hP 7 0 cX_at7 rfl c_8 dX4_richest_49 ?_
        refine lv_goto (tgt := 62) hx hb dX4_richest_50 (by decide) ?_
        refine lv_topi (fun v_9 ev_9 => ?_)
        replace hf := nm_at ev_9 hf
        refine lv_istore (lv' := [(5, .int v_9), (0, .ref (A 0)), (1, .int p1), (2, .int q24.1), (3, .int q24.2.1), (4, .int q24.2.2)]) hx hb dX4_richest_62 hl (by decide) rfl (fun ls hl => ?_)
        refine lv_iload hx hb dX4_richest_64 (lv_at hl 0 rfl) ?_
        refine lv_iload_n hx hb dX4_richest_66 rfl (lv_at hl 4 rfl) ?_
        refine lv_icmp_le (tgt := 76) hx hb dX4_richest_67 (by decide) (fun c_10 => ?_) (fun c_10 => ?_)
        · replace hf := if_t c_10 hf
          obtain ⟨v_11, ev_11, hf⟩ := nm_e hf
          refine lv_iinc (v := v_11) (lv' := [(4, .int v_11), (5, .int v_9), (0, .ref (A 0)), (1, .int p1), (2, .int q24.1), (3, .int q24.2.1)]) hx hb dX4_richest_76 hl (k := 5) rfl (by rw [ev_11]; rfl) (by decide) rfl (fun ls hl => ?_)
          refine lv_goto (tgt := 24) hx hb dX4_richest_79 (by decide) ?_
          exact ih24 (q24.1, q24.2.1, v_11) hf H locs ls hP hD hS (lv_sub hl [2, 3, 4, 5, 0] rfl)
        · replace hf := if_f c_10 hf
          refine lv_iload hx hb dX4_richest_70 (lv_at hl 0 rfl) ?_
          refine lv_istore_n (lv' := [(3, .int v_9), (5, .int v_9), (0, .ref (A 0)), (1, .int p1), (2, .int q24.1), (4, .int q24.2.2)]) hx hb dX4_richest_72 rfl hl (by decide) rfl (fun ls hl => ?_)
          refine lv_iload hx hb dX4_richest_73 (lv_at hl 5 rfl) ?_
          refine lv_istore_n (lv' := [(2, .int q24.2.2), (3, .int v_9), (5, .int v_9), (0, .ref (A 0)), (1, .int p1), (4, .int q24.2.2)]) hx hb dX4_richest_75 rfl hl (by decide) rfl (fun ls hl => ?_)
          obtain ⟨v_12, ev_12, hf⟩ := nm_e hf
          refine lv_iinc (v := v_12) (lv' := [(4, .int v_12), (2, .int q24.2.2), (3, .int v_9), (5, .int v_9), (0, .ref (A 0)), (1, .int p1)]) hx hb dX4_richest_76 hl (k := 5) rfl (by rw [ev_12]; rfl) (by decide) rfl (fun ls hl => ?_)
          refine lv_goto (tgt := 24) hx hb dX4_richest_79 (by decide) ?_
          exact ih24 (q24.2.2, v_9, v_12) hf H locs ls hP hD hS (lv_sub hl [4, 5, 1, 2, 0] rfl)
  · replace hf := if_f c_1 hf
    refine lv_iload_n hx hb dX4_richest_4 rfl (lv_at hl 1 rfl) ?_
    refine lv_iconst (v := 1) hx hb dX4_richest_5 (by decide) ?_
    refine lv_icmp_eq (tgt := 16) hx hb dX4_richest_6 (by decide) (fun c_13 => ?_) (fun c_13 => ?_)
    · replace hf := if_t c_13 hf
      refine lv_bipush (v := -9) hx hb dX4_richest_16 (by decide +kernel) ?_
      refine lv_istore_n (lv' := [(2, .int (-9 : Int32)), (0, .ref (A 0)), (1, .int p1)]) hx hb dX4_richest_18 rfl hl (by decide) rfl (fun ls hl => ?_)
      refine lv_iconst (v := -1) hx hb dX4_richest_19 (by decide) ?_
      refine lv_istore_n (lv' := [(3, .int (-1 : Int32)), (2, .int (-9 : Int32)), (0, .ref (A 0)), (1, .int p1)]) hx hb dX4_richest_20 rfl hl (by decide) rfl (fun ls hl => ?_)
      refine lv_iconst (v := 0) hx hb dX4_richest_21 (by decide) ?_
      refine lv_istore (lv' := [(4, .int (0 : Int32)), (3, .int (-1 : Int32)), (2, .int (-9 : Int32)), (0, .ref (A 0)), (1, .int p1)]) hx hb dX4_richest_22 hl (by decide) rfl (fun ls hl => ?_)
      refine lp_ind (P := fun (q24 : Int32 × Int32 × Int32) => ∀ (H : Heap) (locs : List Loc) (ls : Array Slot), va_P D vwCl (cX cI A n t k g w z q) H → va_D AA (cX cI A n t k g w z q) → va_S AA s.heap H locs → lv_has ls 6 [(0, .ref (A 0)), (1, .int p1), (2, .int q24.1), (3, .int q24.2.1), (4, .int q24.2.2)] → W p l e rm_X4_richest s m args below meth c H locs 0 0 Q (F0 m 24 ls [])) hf ?_ H locs ls hP hD hS (lv_sub hl [3, 4, 2, 1, 0] rfl)
      clear hf hP hD hS hl
      intro nx24 ih24 q24 hf H locs ls hP hD hS hl
      refine lv_iload hx hb dX4_richest_24 (lv_at hl 4 rfl) ?_
      refine lv_aload_n hx hb dX4_richest_26 rfl (lv_at hl 0 rfl) ?_
      refine va_get (D := D) (ci := 4) (v := .ref (A 1)) (C := RX4) (T := TX4) (N := 8) hx hb hts hw4 hown hK hP 0 cX_at0 rfl 0 (by decide) k10 (fun _ h9 => h9) rfl dX4_richest_27 ?_
      refine va_get (D := D) (ci := 0) (v := .int (n 16 1)) (C := RX0) (T := TX0) (N := 12) hx hb hts hw0 hown hK hP 1 cX_at1 rfl 4 (by decide) k158 (fun _ h9 => h9) rfl dX4_richest_30 ?_
      refine lv_icmp_ge (tgt := 82) hx hb dX4_richest_33 (by decide) (fun c_14 => ?_) (fun c_14 => ?_)
      · replace hf := if_t c_14 hf
        refine lv_iload_n hx hb dX4_richest_82 rfl (lv_at hl 2 rfl) ?_
        exact hend (q24.1, q) H locs _ _ hf hP hS dX4_richest_83
      · replace hf := if_f c_14 hf
        refine lv_iload_n hx hb dX4_richest_36 rfl (lv_at hl 1 rfl) ?_
        refine lv_if_ne (tgt := 53) hx hb dX4_richest_37 (by decide) (fun c_15 => ?_) (fun c_15 => ?_)
        · replace hf := if_f c_15 hf
          refine lv_aload_n hx hb dX4_richest_53 rfl (lv_at hl 0 rfl) ?_
          refine va_get (D := D) (ci := 4) (v := .ref (A 1)) (C := RX4) (T := TX4) (N := 8) hx hb hts hw4 hown hK hP 0 cX_at0 rfl 0 (by decide) k10 (fun _ h9 => h9) rfl dX4_richest_54 ?_
          refine lv_iload hx hb dX4_richest_57 (lv_at hl 4 rfl) ?_
          obtain ⟨a_16, ha_16, hf⟩ := bd_e hf
          refine Ct.callV (As := [.int q24.2.2]) (rest := []) (st1 := [.int a_16]) (c_X0_worth l D cI (fun j => A (1 + j)) n q24.2.2 a_16 ha_16) hx hb hml hown hts (cwV 1 hts gX4_richest_X0_worth rfl rfl rfl hd_X0_worth ⟨Nat.le_of_ble_eq_true rfl, Nat.le_of_ble_eq_true rfl⟩) (va_recv hK hP (ci := 0) (q0 := 1) rfl cX_at1) ln_X_H_n hA hK hP hD hS rfl hl.1 rfl rfl (Nat.le_of_ble_eq_true rfl) dX4_richest_59 (fun H locs hP hD hS => ?_)
          refine lv_istore (lv' := [(5, .int a_16), (0, .ref (A 0)), (1, .int p1), (2, .int q24.1), (3, .int q24.2.1), (4, .int q24.2.2)]) hx hb dX4_richest_62 hl (by decide) rfl (fun ls hl => ?_)
          refine lv_iload hx hb dX4_richest_64 (lv_at hl 0 rfl) ?_
          refine lv_iload_n hx hb dX4_richest_66 rfl (lv_at hl 4 rfl) ?_
          refine lv_icmp_le (tgt := 76) hx hb dX4_richest_67 (by decide) (fun c_17 => ?_) (fun c_17 => ?_)
          · replace hf := if_t c_17 hf
            obtain ⟨v_18, ev_18, hf⟩ := nm_e hf
            refine lv_iinc (v := v_18) (lv' := [(4, .int v_18), (5, .int a_16), (0, .ref (A 0)), (1, .int p1), (2, .int q24.1), (3, .int q24.2.1)]) hx hb dX4_richest_76 hl (k := 5) rfl (by rw [ev_18]; rfl) (by decide) rfl (fun ls hl => ?_)
            refine lv_goto (tgt := 24) hx hb dX4_richest_79 (by decide) ?_
            exact ih24 (q24.1, q24.2.1, v_18) hf H locs ls hP hD hS (lv_sub hl [2, 3, 4, 5, 0] rfl)
          · replace hf := if_f c_17 hf
            refine lv_iload hx hb dX4_richest_70 (lv_at hl 0 rfl) ?_
            refine lv_istore_n (lv' := [(3, .int a_16), (5, .int a_16), (0, .ref (A 0)), (1, .int p1), (2, .int q24.1), (4, .int q24.2.2)]) hx hb dX4_richest_72 rfl hl (by decide) rfl (fun ls hl => ?_)
            refine lv_iload hx hb dX4_richest_73 (lv_at hl 5 rfl) ?_
            refine lv_istore_n (lv' := [(2, .int q24.2.2), (3, .int a_16), (5, .int a_16), (0, .ref (A 0)), (1, .int p1), (4, .int q24.2.2)]) hx hb dX4_richest_75 rfl hl (by decide) rfl (fun ls hl => ?_)
            obtain ⟨v_19, ev_19, hf⟩ := nm_e hf
            refine lv_iinc (v := v_19) (lv' := [(4, .int v_19), (2, .int q24.2.2), (3, .int a_16), (5, .int a_16), (0, .ref (A 0)), (1, .int p1)]) hx hb dX4_richest_76 hl (k := 5) rfl (by rw [ev_19]; rfl) (by decide) rfl (fun ls hl => ?_)
            refine lv_goto (tgt := 24) hx hb dX4_richest_79 (by decide) ?_
            exact ih24 (q24.2.2, a_16, v_19) hf H locs ls hP hD hS (lv_sub hl [4, 5, 1, 2, 0] rfl)
        · replace hf := if_t c_15 hf
          refine lv_aload_n hx hb dX4_richest_40 rfl (lv_at hl 0 rfl) ?_
          refine va_get (D := D) (ci := 4) (v := .ref (A 1)) (C := RX4) (T := TX4) (N := 8) hx hb hts hw4 hown hK hP 0 cX_at0 rfl 0 (by decide) k10 (fun _ h9 => h9) rfl dX4_richest_41 ?_
          refine va_get (D := D) (ci := 0) (v := .ref (A 7)) (C := RX0) (T := TX0) (N := 12) hx hb hts hw0 hown hK hP 1 cX_at1 rfl 7 (by decide) k89 (fun _ h9 => h9) rfl dX4_richest_44 ?_
          refine lv_iload hx hb dX4_richest_47 (lv_at hl 4 rfl) ?_
          obtain ⟨c_20, hf⟩ := gi_e hf
          refine va_iald hx hb hK hP 7 0 cX_at7 rfl c_20 dX4_richest_49 ?_
          refine lv_goto (tgt := 62) hx hb dX4_richest_50 (by decide) ?_
          refine lv_topi (fun v_21 ev_21 => ?_)
          replace hf := nm_at ev_21 hf
          refine lv_istore (lv' := [(5, .int v_21), (0, .ref (A 0)), (1, .int p1), (2, .int q24.1), (3, .int q24.2.1), (4, .int q24.2.2)]) hx hb dX4_richest_62 hl (by decide) rfl (fun ls hl => ?_)
          refine lv_iload hx hb dX4_richest_64 (lv_at hl 0 rfl) ?_
          refine lv_iload_n hx hb dX4_richest_66 rfl (lv_at hl 4 rfl) ?_
          refine lv_icmp_le (tgt := 76) hx hb dX4_richest_67 (by decide) (fun c_22 => ?_) (fun c_22 => ?_)
          · replace hf := if_t c_22 hf
            obtain ⟨v_23, ev_23, hf⟩ := nm_e hf
            refine lv_iinc (v := v_23) (lv' := [(4, .int v_23), (5, .int v_21), (0, .ref (A 0)), (1, .int p1), (2, .int q24.1), (3, .int q24.2.1)]) hx hb dX4_richest_76 hl (k := 5) rfl (by rw [ev_23]; rfl) (by decide) rfl (fun ls hl => ?_)
            refine lv_goto (tgt := 24) hx hb dX4_richest_79 (by decide) ?_
            exact ih24 (q24.1, q24.2.1, v_23) hf H locs ls hP hD hS (lv_sub hl [2, 3, 4, 5, 0] rfl)
          · replace hf := if_f c_22 hf
            refine lv_iload hx hb dX4_richest_70 (lv_at hl 0 rfl) ?_
            refine lv_istore_n (lv' := [(3, .int v_21), (5, .int v_21), (0, .ref (A 0)), (1, .int p1), (2, .int q24.1), (4, .int q24.2.2)]) hx hb dX4_richest_72 rfl hl (by decide) rfl (fun ls hl => ?_)
            refine lv_iload hx hb dX4_richest_73 (lv_at hl 5 rfl) ?_
            refine lv_istore_n (lv' := [(2, .int q24.2.2), (3, .int v_21), (5, .int v_21), (0, .ref (A 0)), (1, .int p1), (4, .int q24.2.2)]) hx hb dX4_richest_75 rfl hl (by decide) rfl (fun ls hl => ?_)
            obtain ⟨v_24, ev_24, hf⟩ := nm_e hf
            refine lv_iinc (v := v_24) (lv' := [(4, .int v_24), (2, .int q24.2.2), (3, .int v_21), (5, .int v_21), (0, .ref (A 0)), (1, .int p1)]) hx hb dX4_richest_76 hl (k := 5) rfl (by rw [ev_24]; rfl) (by decide) rfl (fun ls hl => ?_)
            refine lv_goto (tgt := 24) hx hb dX4_richest_79 (by decide) ?_
            exact ih24 (q24.2.2, v_21, v_24) hf H locs ls hP hD hS (lv_sub hl [4, 5, 1, 2, 0] rfl)
    · replace hf := if_f c_13 hf
      refine lv_aload_n hx hb dX4_richest_9 rfl (lv_at hl 0 rfl) ?_
      refine lv_bipush (v := -2) hx hb dX4_richest_10 (by decide +kernel) ?_
      obtain ⟨a_25, ha_25, hf⟩ := bd_e hf
      refine Ct.callV (As := [.int (-2 : Int32)]) (rest := []) (st1 := [.int a_25.1]) (c_X4_refused l D cI A n t k g w z q (-2 : Int32) a_25 ha_25) hx hb hml hown hts (cwV 1 hts gX4_richest_X4_refused rfl rfl rfl hd_X4_refused ⟨Nat.le_of_ble_eq_true rfl, Nat.le_of_ble_eq_true rfl⟩) (va_recv hK hP (ci := 4) (q0 := 0) rfl cX_at0) (Ln.id rfl) hA hK hP hD hS rfl hl.1 rfl rfl (Nat.le_of_ble_eq_true rfl) dX4_richest_12 (fun H locs hP hD hS => ?_)
      replace hP : va_P D vwCl (cX cI A n t k g w z a_25.2) H := hP
      replace hD : va_D AA (cX cI A n t k g w z a_25.2) := hD
      exact hend (a_25.1, a_25.2) H locs _ _ hf hP hS dX4_richest_15

def f_X4_blameless (n : St) (t : St) (k : St) (g : St) (w : St) (z : St) (q : St) : Option (Int32) := (lp (fun (nx4 : (Int32 × Int32) → Option (Int32)) (q4 : Int32 × Int32) => (if (n 16 0) ≤ q4.2 then (some q4.1) else (bd (f_X0_sinsAboard n q4.2) fun a_2 => (if a_2 = 0 then (nm (q4.1 ||| ((1 : Int32) <<< (q4.2 &&& 31))) fun v_5 => (nm (q4.2 + (1 : Int32)) fun v_6 => (nx4 (v_5, v_6)))) else (nm (q4.2 + (1 : Int32)) fun v_4 => (nx4 (q4.1, v_4))))))) 1000 ((0 : Int32), (0 : Int32)))
def rm_X4_blameless : Room := { frames := 1, cells := 0, slots := 0, locals := 23 }
theorem hd_X4_blameless : yX4_blameless.cls = RX4 ∧ yX4_blameless.cls ≠ "java/lang/invoke/MethodHandle" ∧ yX4_blameless.cls ≠ "java/lang/invoke/VarHandle" ∧ (parseMethodDescriptor yX4_blameless.desc).map (fun d => d.parameters.length) = some 0 := by decide +kernel
set_option maxRecDepth 100000 in
set_option maxHeartbeats 4000000 in
theorem c_X4_blameless (l : Launch) (D : va_G) (cI : ClassId) (A : Nat → Nat) (n : St) (t : St) (k : St) (g : St) (w : St) (z : St) (q : St) (r : Int32) (hf : f_X4_blameless n t k g w z q = some r) : Ct l yX4_blameless wsX4_blameless rm_X4_blameless D cI (cX cI A n t k g w z q) (cX cI A n t k g w z q) [.ref (A 0)] (some (.int r)) := by
  unfold f_X4_blameless at hf
  refine Ct.ofI (cc := cX4_blameless) (maxL := 3) (by decide +kernel) rfl (Nat.le_of_ble_eq_true rfl) ?_
  intro p e s m args below meth c AA Q H locs ls hx hb hml hown hts hA hK hP hD hS hl hend0
  have hend : ∀ (r1 : Int32) (H : Heap) (locs : List Loc) (pc : Nat) (ls : Array Slot), some r1 = some r → va_P D vwCl (cX cI A n t k g w z q) H → va_S AA s.heap H locs → decode cX4_blameless pc = .ok (.ireturn, 1) → W p l e rm_X4_blameless s m args below meth c H locs 0 0 Q (F0 m pc ls [.int r1]) := by
    intro r1 H locs pc ls e1 hP hS hd; cases e1; exact hend0 H locs pc ls hP hS hd
  clear hend0
  have hw0 : ∀ w ∈ wsX00, w ∈ wsX4_blameless := by decide +kernel
  have hw4 : ∀ w ∈ wsX40, w ∈ wsX4_blameless := by decide +kernel
  have k10 := hts (.fieldLink RX4 10 "AnchorsForConfession" "now" "LAnchorsForConfession$Harbour;") (by decide +kernel)
  have k136 := hts (.fieldLink RX4 136 "AnchorsForConfession$Harbour" "ships" "I") (by decide +kernel)
  replace hl : lv_has ls 3 [(0, .ref (A 0))] := hl
  refine lv_iconst (v := 0) hx hb dX4_blameless_0 (by decide) ?_
  refine lv_istore_n (lv' := [(1, .int (0 : Int32)), (0, .ref (A 0))]) hx hb dX4_blameless_1 rfl hl (by decide) rfl (fun ls hl => ?_)
  refine lv_iconst (v := 0) hx hb dX4_blameless_2 (by decide) ?_
  refine lv_istore_n (lv' := [(2, .int (0 : Int32)), (1, .int (0 : Int32)), (0, .ref (A 0))]) hx hb dX4_blameless_3 rfl hl (by decide) rfl (fun ls hl => ?_)
  refine lp_ind (P := fun (q4 : Int32 × Int32) => ∀ (H : Heap) (locs : List Loc) (ls : Array Slot), va_P D vwCl (cX cI A n t k g w z q) H → va_D AA (cX cI A n t k g w z q) → va_S AA s.heap H locs → lv_has ls 3 [(0, .ref (A 0)), (1, .int q4.1), (2, .int q4.2)] → W p l e rm_X4_blameless s m args below meth c H locs 0 0 Q (F0 m 4 ls [])) hf ?_ H locs ls hP hD hS (lv_sub hl [2, 1, 0] rfl)
  clear hf hP hD hS hl
  intro nx4 ih4 q4 hf H locs ls hP hD hS hl
  refine lv_iload_n hx hb dX4_blameless_4 rfl (lv_at hl 2 rfl) ?_
  refine lv_aload_n hx hb dX4_blameless_5 rfl (lv_at hl 0 rfl) ?_
  refine va_get (D := D) (ci := 4) (v := .ref (A 1)) (C := RX4) (T := TX4) (N := 8) hx hb hts hw4 hown hK hP 0 cX_at0 rfl 0 (by decide) k10 (fun _ h9 => h9) rfl dX4_blameless_6 ?_
  refine va_get (D := D) (ci := 0) (v := .int (n 16 0)) (C := RX0) (T := TX0) (N := 12) hx hb hts hw0 hown hK hP 1 cX_at1 rfl 0 (by decide) k136 (fun _ h9 => h9) rfl dX4_blameless_9 ?_
  refine lv_icmp_ge (tgt := 38) hx hb dX4_blameless_12 (by decide) (fun c_1 => ?_) (fun c_1 => ?_)
  · replace hf := if_t c_1 hf
    refine lv_iload_n hx hb dX4_blameless_38 rfl (lv_at hl 1 rfl) ?_
    exact hend q4.1 H locs _ _ hf hP hS dX4_blameless_39
  · replace hf := if_f c_1 hf
    refine lv_aload_n hx hb dX4_blameless_15 rfl (lv_at hl 0 rfl) ?_
    refine va_get (D := D) (ci := 4) (v := .ref (A 1)) (C := RX4) (T := TX4) (N := 8) hx hb hts hw4 hown hK hP 0 cX_at0 rfl 0 (by decide) k10 (fun _ h9 => h9) rfl dX4_blameless_16 ?_
    refine lv_iload_n hx hb dX4_blameless_19 rfl (lv_at hl 2 rfl) ?_
    obtain ⟨a_2, ha_2, hf⟩ := bd_e hf
    refine Ct.callV (As := [.int q4.2]) (rest := []) (st1 := [.int a_2]) (c_X0_sinsAboard l D cI (fun j => A (1 + j)) n q4.2 a_2 ha_2) hx hb hml hown hts (cwV 1 hts gX4_blameless_X0_sinsAboard rfl rfl rfl hd_X0_sinsAboard ⟨Nat.le_of_ble_eq_true rfl, Nat.le_of_ble_eq_true rfl⟩) (va_recv hK hP (ci := 0) (q0 := 1) rfl cX_at1) ln_X_H_n hA hK hP hD hS rfl hl.1 rfl rfl (Nat.le_of_ble_eq_true rfl) dX4_blameless_20 (fun H locs hP hD hS => ?_)
    refine lv_if_ne (tgt := 32) hx hb dX4_blameless_23 (by decide) (fun c_3 => ?_) (fun c_3 => ?_)
    · replace hf := if_f c_3 hf
      obtain ⟨v_4, ev_4, hf⟩ := nm_e hf
      refine lv_iinc (v := v_4) (lv' := [(2, .int v_4), (0, .ref (A 0)), (1, .int q4.1)]) hx hb dX4_blameless_32 hl (k := 2) rfl (by rw [ev_4]; rfl) (by decide) rfl (fun ls hl => ?_)
      refine lv_goto (tgt := 4) hx hb dX4_blameless_35 (by decide) ?_
      exact ih4 (q4.1, v_4) hf H locs ls hP hD hS (lv_sub hl [1, 2, 0] rfl)
    · replace hf := if_t c_3 hf
      refine lv_iload_n hx hb dX4_blameless_26 rfl (lv_at hl 1 rfl) ?_
      refine lv_iconst (v := 1) hx hb dX4_blameless_27 (by decide) ?_
      refine lv_iload_n hx hb dX4_blameless_28 rfl (lv_at hl 2 rfl) ?_
      refine lv_ishl hx hb dX4_blameless_29 ?_
      refine lv_ior hx hb dX4_blameless_30 ?_
      refine lv_topi (fun v_5 ev_5 => ?_)
      replace hf := nm_at ev_5 hf
      refine lv_istore_n (lv' := [(1, .int v_5), (0, .ref (A 0)), (2, .int q4.2)]) hx hb dX4_blameless_31 rfl hl (by decide) rfl (fun ls hl => ?_)
      obtain ⟨v_6, ev_6, hf⟩ := nm_e hf
      refine lv_iinc (v := v_6) (lv' := [(2, .int v_6), (1, .int v_5), (0, .ref (A 0))]) hx hb dX4_blameless_32 hl (k := 2) rfl (by rw [ev_6]; rfl) (by decide) rfl (fun ls hl => ?_)
      refine lv_goto (tgt := 4) hx hb dX4_blameless_35 (by decide) ?_
      exact ih4 (v_5, v_6) hf H locs ls hP hD hS (lv_sub hl [2, 1, 0] rfl)

def f_X4_ebb (n : St) (t : St) (k : St) (g : St) (w : St) (z : St) (q : St) (p1 : Int32) : Option (Int32 × St × St) := (bd (f_X0_hasShip n p1) fun a_1 => (if a_1 = 0 then (bd (f_X4_refused n t k g w z q (-1 : Int32)) fun a_7 => (some (((1000000000 : Int32) - a_7.1), t, a_7.2))) else (bd (f_X0_copyFrom t n) fun a_3 => (nm (su a_3 16 3 ((a_3 16 3) + (1 : Int32))) fun h_4 => (bd (f_X0_pool h_4 p1) fun a_5 => (bd (f_X0_pool n p1) fun a_6 => (some ((a_5 - a_6), h_4, q))))))))
def rm_X4_ebb : Room := { frames := 3, cells := 0, slots := 0, locals := 67 }
theorem hd_X4_ebb : yX4_ebb.cls = RX4 ∧ yX4_ebb.cls ≠ "java/lang/invoke/MethodHandle" ∧ yX4_ebb.cls ≠ "java/lang/invoke/VarHandle" ∧ (parseMethodDescriptor yX4_ebb.desc).map (fun d => d.parameters.length) = some 1 := by decide +kernel
set_option maxRecDepth 100000 in
set_option maxHeartbeats 4000000 in
theorem c_X4_ebb (l : Launch) (D : va_G) (cI : ClassId) (A : Nat → Nat) (n : St) (t : St) (k : St) (g : St) (w : St) (z : St) (q : St) (p1 : Int32) (r : Int32 × St × St) (hf : f_X4_ebb n t k g w z q p1 = some r) : Ct l yX4_ebb wsX4_ebb rm_X4_ebb D cI (cX cI A n t k g w z q) (cX cI A n r.2.1 k g w z r.2.2) [.ref (A 0), .int p1] (some (.int r.1)) := by
  unfold f_X4_ebb at hf
  refine Ct.ofI (cc := cX4_ebb) (maxL := 2) (by decide +kernel) rfl (Nat.le_of_ble_eq_true rfl) ?_
  intro p e s m args below meth c AA Q H locs ls hx hb hml hown hts hA hK hP hD hS hl hend0
  have hend : ∀ (r1 : Int32 × St × St) (H : Heap) (locs : List Loc) (pc : Nat) (ls : Array Slot), some r1 = some r → va_P D vwCl (cX cI A n r1.2.1 k g w z r1.2.2) H → va_S AA s.heap H locs → decode cX4_ebb pc = .ok (.ireturn, 1) → W p l e rm_X4_ebb s m args below meth c H locs 0 0 Q (F0 m pc ls [.int r1.1]) := by
    intro r1 H locs pc ls e1 hP hS hd; cases e1; exact hend0 H locs pc ls hP hS hd
  clear hend0
  have hw0 : ∀ w ∈ wsX00, w ∈ wsX4_ebb := by decide +kernel
  have hw4 : ∀ w ∈ wsX40, w ∈ wsX4_ebb := by decide +kernel
  have k10 := hts (.fieldLink RX4 10 "AnchorsForConfession" "now" "LAnchorsForConfession$Harbour;") (by decide +kernel)
  have k16 := hts (.fieldLink RX4 16 "AnchorsForConfession" "thought" "LAnchorsForConfession$Harbour;") (by decide +kernel)
  have k178 := hts (.fieldLink RX4 178 "AnchorsForConfession$Harbour" "tide" "I") (by decide +kernel)
  have kc177 := hts (.constant RX4 177 1000000000) (by decide +kernel)
  replace hl : lv_has ls 2 [(0, .ref (A 0)), (1, .int p1)] := hl
  refine lv_aload_n hx hb dX4_ebb_0 rfl (lv_at hl 0 rfl) ?_
  refine va_get (D := D) (ci := 4) (v := .ref (A 1)) (C := RX4) (T := TX4) (N := 8) hx hb hts hw4 hown hK hP 0 cX_at0 rfl 0 (by decide) k10 (fun _ h9 => h9) rfl dX4_ebb_1 ?_
  refine lv_iload_n hx hb dX4_ebb_4 rfl (lv_at hl 1 rfl) ?_
  obtain ⟨a_1, ha_1, hf⟩ := bd_e hf
  refine Ct.callV (As := [.int p1]) (rest := []) (st1 := [.int a_1]) (c_X0_hasShip l D cI (fun j => A (1 + j)) n p1 a_1 ha_1) hx hb hml hown hts (cwV 1 hts gX4_ebb_X0_hasShip rfl rfl rfl hd_X0_hasShip ⟨Nat.le_of_ble_eq_true rfl, Nat.le_of_ble_eq_true rfl⟩) (va_recv hK hP (ci := 0) (q0 := 1) rfl cX_at1) ln_X_H_n hA hK hP hD hS rfl hl.1 rfl rfl (Nat.le_of_ble_eq_true rfl) dX4_ebb_5 (fun H locs hP hD hS => ?_)
  refine lv_if_ne (tgt := 20) hx hb dX4_ebb_8 (by decide) (fun c_2 => ?_) (fun c_2 => ?_)
  · replace hf := if_f c_2 hf
    refine lv_aload_n hx hb dX4_ebb_20 rfl (lv_at hl 0 rfl) ?_
    refine va_get (D := D) (ci := 4) (v := .ref (A 10)) (C := RX4) (T := TX4) (N := 8) hx hb hts hw4 hown hK hP 0 cX_at0 rfl 1 (by decide) k16 (fun _ h9 => h9) rfl dX4_ebb_21 ?_
    refine lv_aload_n hx hb dX4_ebb_24 rfl (lv_at hl 0 rfl) ?_
    refine va_get (D := D) (ci := 4) (v := .ref (A 1)) (C := RX4) (T := TX4) (N := 8) hx hb hts hw4 hown hK hP 0 cX_at0 rfl 0 (by decide) k10 (fun _ h9 => h9) rfl dX4_ebb_25 ?_
    obtain ⟨a_3, ha_3, hf⟩ := bd_e hf
    refine Ct.callV (As := [.ref (A 1)]) (rest := []) (st1 := []) (c_X0_copyFrom l D cI (fun j => A (10 + j)) (fun j => A (1 + j)) t n a_3 ha_3) hx hb hml hown hts (cwV 1 hts gX4_ebb_X0_copyFrom rfl rfl rfl hd_X0_copyFrom ⟨Nat.le_of_ble_eq_true rfl, Nat.le_of_ble_eq_true rfl⟩) (va_recv hK hP (ci := 0) (q0 := 10) rfl cX_at10) ln_X_HH_tn hA hK hP hD hS rfl hl.1 rfl rfl (Nat.le_of_ble_eq_true rfl) dX4_ebb_28 (fun H locs hP hD hS => ?_)
    replace hP : va_P D vwCl (cX cI A n a_3 k g w z q) H := hP
    replace hD : va_D AA (cX cI A n a_3 k g w z q) := hD
    refine lv_aload_n hx hb dX4_ebb_31 rfl (lv_at hl 0 rfl) ?_
    refine va_get (D := D) (ci := 4) (v := .ref (A 10)) (C := RX4) (T := TX4) (N := 8) hx hb hts hw4 hown hK hP 0 cX_at0 rfl 1 (by decide) k16 (fun _ h9 => h9) rfl dX4_ebb_32 ?_
    refine lv_dup hx hb dX4_ebb_35 rfl ?_
    refine va_get (D := D) (ci := 0) (v := .int (a_3 16 3)) (C := RX0) (T := TX0) (N := 12) hx hb hts hw0 hown hK hP 10 cX_at10 rfl 10 (by decide) k178 (fun _ h9 => h9) rfl dX4_ebb_36 ?_
    refine lv_iconst (v := 1) hx hb dX4_ebb_39 (by decide) ?_
    refine lv_iadd hx hb dX4_ebb_40 ?_
    refine va_put (D := D) (ci := 0) (v := .int ((a_3 16 3) + (1 : Int32))) (ty := .int) (C := RX0) (T := TX0) (N := 12) hx hb hts hw0 tyX0 tyX0_ok nmX0 hown hK hP hD hS 10 cX_at10 rfl 10 (by decide) k178 (fun _ h9 => h9) rfl (tyX0_ok 10 (by decide)) rfl rfl (Nat.le_of_ble_eq_true rfl) dX4_ebb_41 (fun H locs hP hD hS => ?_)
    obtain ⟨h_4, eh_4, hf⟩ := nm_e hf
    rw [cX_sc10_10, ← eh_4] at hP hD
    refine lv_aload_n hx hb dX4_ebb_44 rfl (lv_at hl 0 rfl) ?_
    refine va_get (D := D) (ci := 4) (v := .ref (A 10)) (C := RX4) (T := TX4) (N := 8) hx hb hts hw4 hown hK hP 0 cX_at0 rfl 1 (by decide) k16 (fun _ h9 => h9) rfl dX4_ebb_45 ?_
    refine lv_iload_n hx hb dX4_ebb_48 rfl (lv_at hl 1 rfl) ?_
    obtain ⟨a_5, ha_5, hf⟩ := bd_e hf
    refine Ct.callV (As := [.int p1]) (rest := []) (st1 := [.int a_5]) (c_X0_pool l D cI (fun j => A (10 + j)) h_4 p1 a_5 ha_5) hx hb hml hown hts (cwV 1 hts gX4_ebb_X0_pool rfl rfl rfl hd_X0_pool ⟨Nat.le_of_ble_eq_true rfl, Nat.le_of_ble_eq_true rfl⟩) (va_recv hK hP (ci := 0) (q0 := 10) rfl cX_at10) ln_X_H_t hA hK hP hD hS rfl hl.1 rfl rfl (Nat.le_of_ble_eq_true rfl) dX4_ebb_49 (fun H locs hP hD hS => ?_)
    refine lv_aload_n hx hb dX4_ebb_52 rfl (lv_at hl 0 rfl) ?_
    refine va_get (D := D) (ci := 4) (v := .ref (A 1)) (C := RX4) (T := TX4) (N := 8) hx hb hts hw4 hown hK hP 0 cX_at0 rfl 0 (by decide) k10 (fun _ h9 => h9) rfl dX4_ebb_53 ?_
    refine lv_iload_n hx hb dX4_ebb_56 rfl (lv_at hl 1 rfl) ?_
    obtain ⟨a_6, ha_6, hf⟩ := bd_e hf
    refine Ct.callV (As := [.int p1]) (rest := [.int a_5]) (st1 := [.int a_6, .int a_5]) (c_X0_pool l D cI (fun j => A (1 + j)) n p1 a_6 ha_6) hx hb hml hown hts (cwV 1 hts gX4_ebb_X0_pool rfl rfl rfl hd_X0_pool ⟨Nat.le_of_ble_eq_true rfl, Nat.le_of_ble_eq_true rfl⟩) (va_recv hK hP (ci := 0) (q0 := 1) rfl cX_at1) ln_X_H_n hA hK hP hD hS rfl hl.1 rfl rfl (Nat.le_of_ble_eq_true rfl) dX4_ebb_57 (fun H locs hP hD hS => ?_)
    refine lv_isub hx hb dX4_ebb_60 ?_
    exact hend ((a_5 - a_6), h_4, q) H locs _ _ hf hP hS dX4_ebb_61
  · replace hf := if_t c_2 hf
    refine lv_ldc (v := 1000000000) hx hb hown kc177 dX4_ebb_11 ?_
    refine lv_aload_n hx hb dX4_ebb_13 rfl (lv_at hl 0 rfl) ?_
    refine lv_iconst (v := -1) hx hb dX4_ebb_14 (by decide) ?_
    obtain ⟨a_7, ha_7, hf⟩ := bd_e hf
    refine Ct.callV (As := [.int (-1 : Int32)]) (rest := [.int (1000000000 : Int32)]) (st1 := [.int a_7.1, .int (1000000000 : Int32)]) (c_X4_refused l D cI A n t k g w z q (-1 : Int32) a_7 ha_7) hx hb hml hown hts (cwV 1 hts gX4_ebb_X4_refused rfl rfl rfl hd_X4_refused ⟨Nat.le_of_ble_eq_true rfl, Nat.le_of_ble_eq_true rfl⟩) (va_recv hK hP (ci := 4) (q0 := 0) rfl cX_at0) (Ln.id rfl) hA hK hP hD hS rfl hl.1 rfl rfl (Nat.le_of_ble_eq_true rfl) dX4_ebb_15 (fun H locs hP hD hS => ?_)
    replace hP : va_P D vwCl (cX cI A n t k g w z a_7.2) H := hP
    replace hD : va_D AA (cX cI A n t k g w z a_7.2) := hD
    refine lv_isub hx hb dX4_ebb_18 ?_
    exact hend (((1000000000 : Int32) - a_7.1), t, a_7.2) H locs _ _ hf hP hS dX4_ebb_19

def f_X4_missing (n : St) (t : St) (k : St) (g : St) (w : St) (z : St) (q : St) : Option (Int32) := (lp (fun (nx4 : (Int32 × Int32) → Option (Int32)) (q4 : Int32 × Int32) => (if (n 16 0) ≤ q4.2 then (some q4.1) else (bd (f_X0_isIn n q4.2) fun a_2 => (if a_2 = 0 then (nm (q4.2 + (1 : Int32)) fun v_4 => (nx4 (q4.1, v_4))) else (bd (f_X0_lacks n q4.2) fun a_5 => (bd (f_X0_pool n q4.2) fun a_6 => (nm (q4.1 + (if (0 : Int32) < (a_5 - a_6) then (a_5 - a_6) else (0 : Int32))) fun v_7 => (nm (q4.2 + (1 : Int32)) fun v_8 => (nx4 (v_7, v_8)))))))))) 1000 ((0 : Int32), (0 : Int32)))
def rm_X4_missing : Room := { frames := 3, cells := 0, slots := 0, locals := 67 }
theorem hd_X4_missing : yX4_missing.cls = RX4 ∧ yX4_missing.cls ≠ "java/lang/invoke/MethodHandle" ∧ yX4_missing.cls ≠ "java/lang/invoke/VarHandle" ∧ (parseMethodDescriptor yX4_missing.desc).map (fun d => d.parameters.length) = some 0 := by decide +kernel
set_option maxRecDepth 100000 in
set_option maxHeartbeats 4000000 in
theorem c_X4_missing (l : Launch) (D : va_G) (cI : ClassId) (A : Nat → Nat) (n : St) (t : St) (k : St) (g : St) (w : St) (z : St) (q : St) (r : Int32) (hf : f_X4_missing n t k g w z q = some r) : Ct l yX4_missing wsX4_missing rm_X4_missing D cI (cX cI A n t k g w z q) (cX cI A n t k g w z q) [.ref (A 0)] (some (.int r)) := by
  unfold f_X4_missing at hf
  refine Ct.ofI (cc := cX4_missing) (maxL := 3) (by decide +kernel) rfl (Nat.le_of_ble_eq_true rfl) ?_
  intro p e s m args below meth c AA Q H locs ls hx hb hml hown hts hA hK hP hD hS hl hend0
  have hend : ∀ (r1 : Int32) (H : Heap) (locs : List Loc) (pc : Nat) (ls : Array Slot), some r1 = some r → va_P D vwCl (cX cI A n t k g w z q) H → va_S AA s.heap H locs → decode cX4_missing pc = .ok (.ireturn, 1) → W p l e rm_X4_missing s m args below meth c H locs 0 0 Q (F0 m pc ls [.int r1]) := by
    intro r1 H locs pc ls e1 hP hS hd; cases e1; exact hend0 H locs pc ls hP hS hd
  clear hend0
  have hw0 : ∀ w ∈ wsX00, w ∈ wsX4_missing := by decide +kernel
  have hw4 : ∀ w ∈ wsX40, w ∈ wsX4_missing := by decide +kernel
  have k10 := hts (.fieldLink RX4 10 "AnchorsForConfession" "now" "LAnchorsForConfession$Harbour;") (by decide +kernel)
  have k136 := hts (.fieldLink RX4 136 "AnchorsForConfession$Harbour" "ships" "I") (by decide +kernel)
  have km181 := hts (.methodLink RX4 181 Lib.Math.max.name) (by decide +kernel)
  have ks181 := hts (.static Lib.Math.max.name) (by decide +kernel)
  have ki181 := hts (.initialized "java/lang/Math") (by decide +kernel)
  have kk181 := hts (.code Lib.Math.max.name Lib.Math.max.code 2 (some .int)) (by decide +kernel)
  replace hl : lv_has ls 3 [(0, .ref (A 0))] := hl
  refine lv_iconst (v := 0) hx hb dX4_missing_0 (by decide) ?_
  refine lv_istore_n (lv' := [(1, .int (0 : Int32)), (0, .ref (A 0))]) hx hb dX4_missing_1 rfl hl (by decide) rfl (fun ls hl => ?_)
  refine lv_iconst (v := 0) hx hb dX4_missing_2 (by decide) ?_
  refine lv_istore_n (lv' := [(2, .int (0 : Int32)), (1, .int (0 : Int32)), (0, .ref (A 0))]) hx hb dX4_missing_3 rfl hl (by decide) rfl (fun ls hl => ?_)
  refine lp_ind (P := fun (q4 : Int32 × Int32) => ∀ (H : Heap) (locs : List Loc) (ls : Array Slot), va_P D vwCl (cX cI A n t k g w z q) H → va_D AA (cX cI A n t k g w z q) → va_S AA s.heap H locs → lv_has ls 3 [(0, .ref (A 0)), (1, .int q4.1), (2, .int q4.2)] → W p l e rm_X4_missing s m args below meth c H locs 0 0 Q (F0 m 4 ls [])) hf ?_ H locs ls hP hD hS (lv_sub hl [2, 1, 0] rfl)
  clear hf hP hD hS hl
  intro nx4 ih4 q4 hf H locs ls hP hD hS hl
  refine lv_iload_n hx hb dX4_missing_4 rfl (lv_at hl 2 rfl) ?_
  refine lv_aload_n hx hb dX4_missing_5 rfl (lv_at hl 0 rfl) ?_
  refine va_get (D := D) (ci := 4) (v := .ref (A 1)) (C := RX4) (T := TX4) (N := 8) hx hb hts hw4 hown hK hP 0 cX_at0 rfl 0 (by decide) k10 (fun _ h9 => h9) rfl dX4_missing_6 ?_
  refine va_get (D := D) (ci := 0) (v := .int (n 16 0)) (C := RX0) (T := TX0) (N := 12) hx hb hts hw0 hown hK hP 1 cX_at1 rfl 0 (by decide) k136 (fun _ h9 => h9) rfl dX4_missing_9 ?_
  refine lv_icmp_ge (tgt := 56) hx hb dX4_missing_12 (by decide) (fun c_1 => ?_) (fun c_1 => ?_)
  · replace hf := if_t c_1 hf
    refine lv_iload_n hx hb dX4_missing_56 rfl (lv_at hl 1 rfl) ?_
    exact hend q4.1 H locs _ _ hf hP hS dX4_missing_57
  · replace hf := if_f c_1 hf
    refine lv_aload_n hx hb dX4_missing_15 rfl (lv_at hl 0 rfl) ?_
    refine va_get (D := D) (ci := 4) (v := .ref (A 1)) (C := RX4) (T := TX4) (N := 8) hx hb hts hw4 hown hK hP 0 cX_at0 rfl 0 (by decide) k10 (fun _ h9 => h9) rfl dX4_missing_16 ?_
    refine lv_iload_n hx hb dX4_missing_19 rfl (lv_at hl 2 rfl) ?_
    obtain ⟨a_2, ha_2, hf⟩ := bd_e hf
    refine Ct.callV (As := [.int q4.2]) (rest := []) (st1 := [.int a_2]) (c_X0_isIn l D cI (fun j => A (1 + j)) n q4.2 a_2 ha_2) hx hb hml hown hts (cwV 1 hts gX4_missing_X0_isIn rfl rfl rfl hd_X0_isIn ⟨Nat.le_of_ble_eq_true rfl, Nat.le_of_ble_eq_true rfl⟩) (va_recv hK hP (ci := 0) (q0 := 1) rfl cX_at1) ln_X_H_n hA hK hP hD hS rfl hl.1 rfl rfl (Nat.le_of_ble_eq_true rfl) dX4_missing_20 (fun H locs hP hD hS => ?_)
    refine lv_if_eq (tgt := 50) hx hb dX4_missing_23 (by decide) (fun c_3 => ?_) (fun c_3 => ?_)
    · replace hf := if_t c_3 hf
      obtain ⟨v_4, ev_4, hf⟩ := nm_e hf
      refine lv_iinc (v := v_4) (lv' := [(2, .int v_4), (0, .ref (A 0)), (1, .int q4.1)]) hx hb dX4_missing_50 hl (k := 2) rfl (by rw [ev_4]; rfl) (by decide) rfl (fun ls hl => ?_)
      refine lv_goto (tgt := 4) hx hb dX4_missing_53 (by decide) ?_
      exact ih4 (q4.1, v_4) hf H locs ls hP hD hS (lv_sub hl [1, 2, 0] rfl)
    · replace hf := if_f c_3 hf
      refine lv_iload_n hx hb dX4_missing_26 rfl (lv_at hl 1 rfl) ?_
      refine lv_iconst (v := 0) hx hb dX4_missing_27 (by decide) ?_
      refine lv_aload_n hx hb dX4_missing_28 rfl (lv_at hl 0 rfl) ?_
      refine va_get (D := D) (ci := 4) (v := .ref (A 1)) (C := RX4) (T := TX4) (N := 8) hx hb hts hw4 hown hK hP 0 cX_at0 rfl 0 (by decide) k10 (fun _ h9 => h9) rfl dX4_missing_29 ?_
      refine lv_iload_n hx hb dX4_missing_32 rfl (lv_at hl 2 rfl) ?_
      obtain ⟨a_5, ha_5, hf⟩ := bd_e hf
      refine Ct.callV (As := [.int q4.2]) (rest := [.int (0 : Int32), .int q4.1]) (st1 := [.int a_5, .int (0 : Int32), .int q4.1]) (c_X0_lacks l D cI (fun j => A (1 + j)) n q4.2 a_5 ha_5) hx hb hml hown hts (cwV 1 hts gX4_missing_X0_lacks rfl rfl rfl hd_X0_lacks ⟨Nat.le_of_ble_eq_true rfl, Nat.le_of_ble_eq_true rfl⟩) (va_recv hK hP (ci := 0) (q0 := 1) rfl cX_at1) ln_X_H_n hA hK hP hD hS rfl hl.1 rfl rfl (Nat.le_of_ble_eq_true rfl) dX4_missing_33 (fun H locs hP hD hS => ?_)
      refine lv_aload_n hx hb dX4_missing_36 rfl (lv_at hl 0 rfl) ?_
      refine va_get (D := D) (ci := 4) (v := .ref (A 1)) (C := RX4) (T := TX4) (N := 8) hx hb hts hw4 hown hK hP 0 cX_at0 rfl 0 (by decide) k10 (fun _ h9 => h9) rfl dX4_missing_37 ?_
      refine lv_iload_n hx hb dX4_missing_40 rfl (lv_at hl 2 rfl) ?_
      obtain ⟨a_6, ha_6, hf⟩ := bd_e hf
      refine Ct.callV (As := [.int q4.2]) (rest := [.int a_5, .int (0 : Int32), .int q4.1]) (st1 := [.int a_6, .int a_5, .int (0 : Int32), .int q4.1]) (c_X0_pool l D cI (fun j => A (1 + j)) n q4.2 a_6 ha_6) hx hb hml hown hts (cwV 1 hts gX4_missing_X0_pool rfl rfl rfl hd_X0_pool ⟨Nat.le_of_ble_eq_true rfl, Nat.le_of_ble_eq_true rfl⟩) (va_recv hK hP (ci := 0) (q0 := 1) rfl cX_at1) ln_X_H_n hA hK hP hD hS rfl hl.1 rfl rfl (Nat.le_of_ble_eq_true rfl) dX4_missing_41 (fun H locs hP hD hS => ?_)
      refine lv_isub hx hb dX4_missing_44 ?_
      refine va_mmax hx hb (by rw [hml]; exact hl.1.symm) hown km181 ks181 ki181 kk181 (Nat.le_of_ble_eq_true rfl) (Nat.le_of_ble_eq_true rfl) (Nat.zero_le _) (Nat.zero_le _) dX4_missing_45 ?_
      refine lv_iadd hx hb dX4_missing_48 ?_
      refine lv_topi (fun v_7 ev_7 => ?_)
      replace hf := nm_at ev_7 hf
      refine lv_istore_n (lv' := [(1, .int v_7), (0, .ref (A 0)), (2, .int q4.2)]) hx hb dX4_missing_49 rfl hl (by decide) rfl (fun ls hl => ?_)
      obtain ⟨v_8, ev_8, hf⟩ := nm_e hf
      refine lv_iinc (v := v_8) (lv' := [(2, .int v_8), (1, .int v_7), (0, .ref (A 0))]) hx hb dX4_missing_50 hl (k := 2) rfl (by rw [ev_8]; rfl) (by decide) rfl (fun ls hl => ?_)
      refine lv_goto (tgt := 4) hx hb dX4_missing_53 (by decide) ?_
      exact ih4 (v_7, v_8) hf H locs ls hP hD hS (lv_sub hl [2, 1, 0] rfl)

def f_X4_gainOf (n : St) (t : St) (k : St) (g : St) (w : St) (z : St) (q : St) (p1 : Int32) (p2 : Int32) (p3 : Int32) (p4 : Int32) (p5 : Int32) : Option (Int32 × St) := (bd (f_X0_copyFrom t n) fun a_1 => (if p4 = (1 : Int32) then (bd (f_X0_canTell a_1 p2) fun a_22 => (if a_22 = 0 then (if p5 = (1 : Int32) then (bd (f_X0_canTell a_1 p3) fun a_30 => (if a_30 = 0 then (gi p1 8 (bd (f_X0_isIn a_1 (a_1 7 (p1).toNatClampNeg)) fun a_33 => (if a_33 = 0 then (if p1 = p2 then (some ((3 : Int32), a_1)) else (some ((3 : Int32), a_1))) else (if p1 = p2 then (some ((0 : Int32), a_1)) else (some ((0 : Int32), a_1)))))) else (bd (f_X0_word a_1 p3) fun a_37 => (gi p1 8 (bd (f_X0_isIn a_37.2 (a_37.2 7 (p1).toNatClampNeg)) fun a_39 => (if a_39 = 0 then (if p1 = p2 then (some ((3 : Int32), a_37.2)) else (some (((3 : Int32) - (1 : Int32)), a_37.2))) else (if p1 = p2 then (some ((0 : Int32), a_37.2)) else (some (((0 : Int32) - (1 : Int32)), a_37.2))))))))) else (gi p1 8 (bd (f_X0_isIn a_1 (a_1 7 (p1).toNatClampNeg)) fun a_26 => (if a_26 = 0 then (if p1 = p2 then (some ((3 : Int32), a_1)) else (some ((3 : Int32), a_1))) else (if p1 = p2 then (some ((0 : Int32), a_1)) else (some ((0 : Int32), a_1))))))) else (bd (f_X0_word a_1 p2) fun a_43 => (if p5 = (1 : Int32) then (bd (f_X0_canTell a_43.2 p3) fun a_50 => (if a_50 = 0 then (gi p1 8 (bd (f_X0_isIn a_43.2 (a_43.2 7 (p1).toNatClampNeg)) fun a_53 => (if a_53 = 0 then (if p1 = p2 then (some (((3 : Int32) - (1 : Int32)), a_43.2)) else (some ((3 : Int32), a_43.2))) else (if p1 = p2 then (some (((0 : Int32) - (1 : Int32)), a_43.2)) else (some ((0 : Int32), a_43.2)))))) else (bd (f_X0_word a_43.2 p3) fun a_57 => (gi p1 8 (bd (f_X0_isIn a_57.2 (a_57.2 7 (p1).toNatClampNeg)) fun a_59 => (if a_59 = 0 then (if p1 = p2 then (some (((3 : Int32) - (1 : Int32)), a_57.2)) else (some (((3 : Int32) - (1 : Int32)), a_57.2))) else (if p1 = p2 then (some (((0 : Int32) - (1 : Int32)), a_57.2)) else (some (((0 : Int32) - (1 : Int32)), a_57.2))))))))) else (gi p1 8 (bd (f_X0_isIn a_43.2 (a_43.2 7 (p1).toNatClampNeg)) fun a_46 => (if a_46 = 0 then (if p1 = p2 then (some (((3 : Int32) - (1 : Int32)), a_43.2)) else (some ((3 : Int32), a_43.2))) else (if p1 = p2 then (some (((0 : Int32) - (1 : Int32)), a_43.2)) else (some ((0 : Int32), a_43.2)))))))))) else (if p5 = (1 : Int32) then (bd (f_X0_canTell a_1 p3) fun a_9 => (if a_9 = 0 then (gi p1 8 (bd (f_X0_isIn a_1 (a_1 7 (p1).toNatClampNeg)) fun a_12 => (if a_12 = 0 then (if p1 = p2 then (some ((3 : Int32), a_1)) else (some ((3 : Int32), a_1))) else (if p1 = p2 then (some ((0 : Int32), a_1)) else (some ((0 : Int32), a_1)))))) else (bd (f_X0_word a_1 p3) fun a_16 => (gi p1 8 (bd (f_X0_isIn a_16.2 (a_16.2 7 (p1).toNatClampNeg)) fun a_18 => (if a_18 = 0 then (if p1 = p2 then (some ((3 : Int32), a_16.2)) else (some (((3 : Int32) - (1 : Int32)), a_16.2))) else (if p1 = p2 then (some ((0 : Int32), a_16.2)) else (some (((0 : Int32) - (1 : Int32)), a_16.2))))))))) else (gi p1 8 (bd (f_X0_isIn a_1 (a_1 7 (p1).toNatClampNeg)) fun a_5 => (if a_5 = 0 then (if p1 = p2 then (some ((3 : Int32), a_1)) else (some ((3 : Int32), a_1))) else (if p1 = p2 then (some ((0 : Int32), a_1)) else (some ((0 : Int32), a_1)))))))))
def rm_X4_gainOf : Room := { frames := 4, cells := 0, slots := 0, locals := 89 }
theorem hd_X4_gainOf : yX4_gainOf.cls = RX4 ∧ yX4_gainOf.cls ≠ "java/lang/invoke/MethodHandle" ∧ yX4_gainOf.cls ≠ "java/lang/invoke/VarHandle" ∧ (parseMethodDescriptor yX4_gainOf.desc).map (fun d => d.parameters.length) = some 5 := by decide +kernel
set_option maxRecDepth 100000 in
set_option maxHeartbeats 4000000 in
theorem c_X4_gainOf (l : Launch) (D : va_G) (cI : ClassId) (A : Nat → Nat) (n : St) (t : St) (k : St) (g : St) (w : St) (z : St) (q : St) (p1 : Int32) (p2 : Int32) (p3 : Int32) (p4 : Int32) (p5 : Int32) (r : Int32 × St) (hf : f_X4_gainOf n t k g w z q p1 p2 p3 p4 p5 = some r) : Ct l yX4_gainOf wsX4_gainOf rm_X4_gainOf D cI (cX cI A n t k g w z q) (cX cI A n r.2 k g w z q) [.ref (A 0), .int p1, .int p2, .int p3, .int p4, .int p5] (some (.int r.1)) := by
  unfold f_X4_gainOf at hf
  refine Ct.ofI (cc := cX4_gainOf) (maxL := 10) (by decide +kernel) rfl (Nat.le_of_ble_eq_true rfl) ?_
  intro p e s m args below meth c AA Q H locs ls hx hb hml hown hts hA hK hP hD hS hl hend0
  have hend : ∀ (r1 : Int32 × St) (H : Heap) (locs : List Loc) (pc : Nat) (ls : Array Slot), some r1 = some r → va_P D vwCl (cX cI A n r1.2 k g w z q) H → va_S AA s.heap H locs → decode cX4_gainOf pc = .ok (.ireturn, 1) → W p l e rm_X4_gainOf s m args below meth c H locs 0 0 Q (F0 m pc ls [.int r1.1]) := by
    intro r1 H locs pc ls e1 hP hS hd; cases e1; exact hend0 H locs pc ls hP hS hd
  clear hend0
  have hw0 : ∀ w ∈ wsX00, w ∈ wsX4_gainOf := by decide +kernel
  have hw4 : ∀ w ∈ wsX40, w ∈ wsX4_gainOf := by decide +kernel
  have k10 := hts (.fieldLink RX4 10 "AnchorsForConfession" "now" "LAnchorsForConfession$Harbour;") (by decide +kernel)
  have k16 := hts (.fieldLink RX4 16 "AnchorsForConfession" "thought" "LAnchorsForConfession$Harbour;") (by decide +kernel)
  have k86 := hts (.fieldLink RX4 86 "AnchorsForConfession$Harbour" "aboard" "[I") (by decide +kernel)
  replace hl : lv_has ls 10 [(0, .ref (A 0)), (1, .int p1), (2, .int p2), (3, .int p3), (4, .int p4), (5, .int p5)] := hl
  refine lv_aload_n hx hb dX4_gainOf_0 rfl (lv_at hl 0 rfl) ?_
  refine va_get (D := D) (ci := 4) (v := .ref (A 10)) (C := RX4) (T := TX4) (N := 8) hx hb hts hw4 hown hK hP 0 cX_at0 rfl 1 (by decide) k16 (fun _ h9 => h9) rfl dX4_gainOf_1 ?_
  refine lv_aload_n hx hb dX4_gainOf_4 rfl (lv_at hl 0 rfl) ?_
  refine va_get (D := D) (ci := 4) (v := .ref (A 1)) (C := RX4) (T := TX4) (N := 8) hx hb hts hw4 hown hK hP 0 cX_at0 rfl 0 (by decide) k10 (fun _ h9 => h9) rfl dX4_gainOf_5 ?_
  obtain ⟨a_1, ha_1, hf⟩ := bd_e hf
  refine Ct.callV (As := [.ref (A 1)]) (rest := []) (st1 := []) (c_X0_copyFrom l D cI (fun j => A (10 + j)) (fun j => A (1 + j)) t n a_1 ha_1) hx hb hml hown hts (cwV 1 hts gX4_gainOf_X0_copyFrom rfl rfl rfl hd_X0_copyFrom ⟨Nat.le_of_ble_eq_true rfl, Nat.le_of_ble_eq_true rfl⟩) (va_recv hK hP (ci := 0) (q0 := 10) rfl cX_at10) ln_X_HH_tn hA hK hP hD hS rfl hl.1 rfl rfl (Nat.le_of_ble_eq_true rfl) dX4_gainOf_8 (fun H locs hP hD hS => ?_)
  replace hP : va_P D vwCl (cX cI A n a_1 k g w z q) H := hP
  replace hD : va_D AA (cX cI A n a_1 k g w z q) := hD
  refine lv_iload hx hb dX4_gainOf_11 (lv_at hl 4 rfl) ?_
  refine lv_iconst (v := 1) hx hb dX4_gainOf_13 (by decide) ?_
  refine lv_icmp_ne (tgt := 32) hx hb dX4_gainOf_14 (by decide) (fun c_2 => ?_) (fun c_2 => ?_)
  · replace hf := if_f c_2 hf
    refine lv_iconst (v := 0) hx hb dX4_gainOf_32 (by decide) ?_
    refine lv_istore (lv' := [(6, .int (0 : Int32)), (0, .ref (A 0)), (1, .int p1), (2, .int p2), (3, .int p3), (4, .int p4), (5, .int p5)]) hx hb dX4_gainOf_33 hl (by decide) rfl (fun ls hl => ?_)
    refine lv_iload hx hb dX4_gainOf_35 (lv_at hl 0 rfl) ?_
    refine lv_if_eq (tgt := 49) hx hb dX4_gainOf_37 (by decide) (fun _ => ?_) (fun c0 => absurd c0 (by decide))
    refine lv_iload hx hb dX4_gainOf_49 (lv_at hl 6 rfl) ?_
    refine lv_iconst (v := 1) hx hb dX4_gainOf_51 (by decide) ?_
    refine lv_icmp_ne (tgt := 70) hx hb dX4_gainOf_52 (by decide) (fun c_3 => ?_) (fun c_3 => ?_)
    · replace hf := if_f c_3 hf
      refine lv_iconst (v := 0) hx hb dX4_gainOf_70 (by decide) ?_
      refine lv_istore (lv' := [(7, .int (0 : Int32)), (6, .int (0 : Int32)), (0, .ref (A 0)), (1, .int p1), (2, .int p2), (3, .int p3), (4, .int p4), (5, .int p5)]) hx hb dX4_gainOf_71 hl (by decide) rfl (fun ls hl => ?_)
      refine lv_iload hx hb dX4_gainOf_73 (lv_at hl 0 rfl) ?_
      refine lv_if_eq (tgt := 87) hx hb dX4_gainOf_75 (by decide) (fun _ => ?_) (fun c0 => absurd c0 (by decide))
      refine lv_aload_n hx hb dX4_gainOf_87 rfl (lv_at hl 2 rfl) ?_
      refine va_get (D := D) (ci := 4) (v := .ref (A 10)) (C := RX4) (T := TX4) (N := 8) hx hb hts hw4 hown hK hP 0 cX_at0 rfl 1 (by decide) k16 (fun _ h9 => h9) rfl dX4_gainOf_88 ?_
      refine lv_aload_n hx hb dX4_gainOf_91 rfl (lv_at hl 2 rfl) ?_
      refine va_get (D := D) (ci := 4) (v := .ref (A 10)) (C := RX4) (T := TX4) (N := 8) hx hb hts hw4 hown hK hP 0 cX_at0 rfl 1 (by decide) k16 (fun _ h9 => h9) rfl dX4_gainOf_92 ?_
      refine va_get (D := D) (ci := 0) (v := .ref (A 17)) (C := RX0) (T := TX0) (N := 12) hx hb hts hw0 hown hK hP 10 cX_at10 rfl 8 (by decide) k86 (fun _ h9 => h9) rfl dX4_gainOf_95 ?_
      refine lv_iload_n hx hb dX4_gainOf_98 rfl (lv_at hl 3 rfl) ?_
      obtain ⟨c_4, hf⟩ := gi_e hf
      refine va_iald hx hb hK hP 17 0 cX_at17 rfl c_4 dX4_gainOf_99 ?_
      obtain ⟨a_5, ha_5, hf⟩ := bd_e hf
      refine Ct.callV (As := [.int (a_1 7 (p1).toNatClampNeg)]) (rest := []) (st1 := [.int a_5]) (c_X0_isIn l D cI (fun j => A (10 + j)) a_1 (a_1 7 (p1).toNatClampNeg) a_5 ha_5) hx hb hml hown hts (cwV 1 hts gX4_gainOf_X0_isIn rfl rfl rfl hd_X0_isIn ⟨Nat.le_of_ble_eq_true rfl, Nat.le_of_ble_eq_true rfl⟩) (va_recv hK hP (ci := 0) (q0 := 10) rfl cX_at10) ln_X_H_t hA hK hP hD hS rfl hl.1 rfl rfl (Nat.le_of_ble_eq_true rfl) dX4_gainOf_100 (fun H locs hP hD hS => ?_)
      refine lv_if_eq (tgt := 110) hx hb dX4_gainOf_103 (by decide) (fun c_6 => ?_) (fun c_6 => ?_)
      · replace hf := if_t c_6 hf
        refine lv_iconst (v := 3) hx hb dX4_gainOf_110 (by decide) ?_
        refine lv_istore (lv' := [(8, .int (3 : Int32)), (7, .int (0 : Int32)), (6, .int (0 : Int32)), (0, .ref (A 0)), (1, .int p1), (2, .int p2), (3, .int p3), (4, .int p4), (5, .int p5)]) hx hb dX4_gainOf_111 hl (by decide) rfl (fun ls hl => ?_)
        refine lv_iload_n hx hb dX4_gainOf_113 rfl (lv_at hl 4 rfl) ?_
        refine lv_iload_n hx hb dX4_gainOf_114 rfl (lv_at hl 5 rfl) ?_
        refine lv_icmp_ne (tgt := 123) hx hb dX4_gainOf_115 (by decide) (fun c_7 => ?_) (fun c_7 => ?_)
        · replace hf := if_f c_7 hf
          refine lv_iload hx hb dX4_gainOf_123 (lv_at hl 1 rfl) ?_
          refine lv_istore (lv' := [(9, .int (0 : Int32)), (8, .int (3 : Int32)), (7, .int (0 : Int32)), (6, .int (0 : Int32)), (0, .ref (A 0)), (1, .int p1), (2, .int p2), (3, .int p3), (4, .int p4), (5, .int p5)]) hx hb dX4_gainOf_125 hl (by decide) rfl (fun ls hl => ?_)
          refine lv_iload hx hb dX4_gainOf_127 (lv_at hl 0 rfl) ?_
          refine lv_if_eq (tgt := 139) hx hb dX4_gainOf_129 (by decide) (fun _ => ?_) (fun c0 => absurd c0 (by decide))
          refine lv_iload hx hb dX4_gainOf_139 (lv_at hl 1 rfl) ?_
          exact hend ((3 : Int32), a_1) H locs _ _ hf hP hS dX4_gainOf_141
        · replace hf := if_t c_7 hf
          refine lv_iload hx hb dX4_gainOf_118 (lv_at hl 2 rfl) ?_
          refine lv_goto (tgt := 125) hx hb dX4_gainOf_120 (by decide) ?_
          refine lv_istore (lv' := [(9, .int (0 : Int32)), (8, .int (3 : Int32)), (7, .int (0 : Int32)), (6, .int (0 : Int32)), (0, .ref (A 0)), (1, .int p1), (2, .int p2), (3, .int p3), (4, .int p4), (5, .int p5)]) hx hb dX4_gainOf_125 hl (by decide) rfl (fun ls hl => ?_)
          refine lv_iload hx hb dX4_gainOf_127 (lv_at hl 0 rfl) ?_
          refine lv_if_eq (tgt := 139) hx hb dX4_gainOf_129 (by decide) (fun _ => ?_) (fun c0 => absurd c0 (by decide))
          refine lv_iload hx hb dX4_gainOf_139 (lv_at hl 1 rfl) ?_
          exact hend ((3 : Int32), a_1) H locs _ _ hf hP hS dX4_gainOf_141
      · replace hf := if_f c_6 hf
        refine lv_iconst (v := 0) hx hb dX4_gainOf_106 (by decide) ?_
        refine lv_goto (tgt := 111) hx hb dX4_gainOf_107 (by decide) ?_
        refine lv_istore (lv' := [(8, .int (0 : Int32)), (7, .int (0 : Int32)), (6, .int (0 : Int32)), (0, .ref (A 0)), (1, .int p1), (2, .int p2), (3, .int p3), (4, .int p4), (5, .int p5)]) hx hb dX4_gainOf_111 hl (by decide) rfl (fun ls hl => ?_)
        refine lv_iload_n hx hb dX4_gainOf_113 rfl (lv_at hl 4 rfl) ?_
        refine lv_iload_n hx hb dX4_gainOf_114 rfl (lv_at hl 5 rfl) ?_
        refine lv_icmp_ne (tgt := 123) hx hb dX4_gainOf_115 (by decide) (fun c_8 => ?_) (fun c_8 => ?_)
        · replace hf := if_f c_8 hf
          refine lv_iload hx hb dX4_gainOf_123 (lv_at hl 1 rfl) ?_
          refine lv_istore (lv' := [(9, .int (0 : Int32)), (8, .int (0 : Int32)), (7, .int (0 : Int32)), (6, .int (0 : Int32)), (0, .ref (A 0)), (1, .int p1), (2, .int p2), (3, .int p3), (4, .int p4), (5, .int p5)]) hx hb dX4_gainOf_125 hl (by decide) rfl (fun ls hl => ?_)
          refine lv_iload hx hb dX4_gainOf_127 (lv_at hl 0 rfl) ?_
          refine lv_if_eq (tgt := 139) hx hb dX4_gainOf_129 (by decide) (fun _ => ?_) (fun c0 => absurd c0 (by decide))
          refine lv_iload hx hb dX4_gainOf_139 (lv_at hl 1 rfl) ?_
          exact hend ((0 : Int32), a_1) H locs _ _ hf hP hS dX4_gainOf_141
        · replace hf := if_t c_8 hf
          refine lv_iload hx hb dX4_gainOf_118 (lv_at hl 2 rfl) ?_
          refine lv_goto (tgt := 125) hx hb dX4_gainOf_120 (by decide) ?_
          refine lv_istore (lv' := [(9, .int (0 : Int32)), (8, .int (0 : Int32)), (7, .int (0 : Int32)), (6, .int (0 : Int32)), (0, .ref (A 0)), (1, .int p1), (2, .int p2), (3, .int p3), (4, .int p4), (5, .int p5)]) hx hb dX4_gainOf_125 hl (by decide) rfl (fun ls hl => ?_)
          refine lv_iload hx hb dX4_gainOf_127 (lv_at hl 0 rfl) ?_
          refine lv_if_eq (tgt := 139) hx hb dX4_gainOf_129 (by decide) (fun _ => ?_) (fun c0 => absurd c0 (by decide))
          refine lv_iload hx hb dX4_gainOf_139 (lv_at hl 1 rfl) ?_
          exact hend ((0 : Int32), a_1) H locs _ _ hf hP hS dX4_gainOf_141
    · replace hf := if_t c_3 hf
      refine lv_aload_n hx hb dX4_gainOf_55 rfl (lv_at hl 1 rfl) ?_
      refine va_get (D := D) (ci := 4) (v := .ref (A 10)) (C := RX4) (T := TX4) (N := 8) hx hb hts hw4 hown hK hP 0 cX_at0 rfl 1 (by decide) k16 (fun _ h9 => h9) rfl dX4_gainOf_56 ?_
      refine lv_iload_n hx hb dX4_gainOf_59 rfl (lv_at hl 4 rfl) ?_
      obtain ⟨a_9, ha_9, hf⟩ := bd_e hf
      refine Ct.callV (As := [.int p3]) (rest := []) (st1 := [.int a_9]) (c_X0_canTell l D cI (fun j => A (10 + j)) a_1 p3 a_9 ha_9) hx hb hml hown hts (cwV 1 hts gX4_gainOf_X0_canTell rfl rfl rfl hd_X0_canTell ⟨Nat.le_of_ble_eq_true rfl, Nat.le_of_ble_eq_true rfl⟩) (va_recv hK hP (ci := 0) (q0 := 10) rfl cX_at10) ln_X_H_t hA hK hP hD hS rfl hl.1 rfl rfl (Nat.le_of_ble_eq_true rfl) dX4_gainOf_60 (fun H locs hP hD hS => ?_)
      refine lv_if_eq (tgt := 70) hx hb dX4_gainOf_63 (by decide) (fun c_10 => ?_) (fun c_10 => ?_)
      · replace hf := if_t c_10 hf
        refine lv_iconst (v := 0) hx hb dX4_gainOf_70 (by decide) ?_
        refine lv_istore (lv' := [(7, .int (0 : Int32)), (6, .int (0 : Int32)), (0, .ref (A 0)), (1, .int p1), (2, .int p2), (3, .int p3), (4, .int p4), (5, .int p5)]) hx hb dX4_gainOf_71 hl (by decide) rfl (fun ls hl => ?_)
        refine lv_iload hx hb dX4_gainOf_73 (lv_at hl 0 rfl) ?_
        refine lv_if_eq (tgt := 87) hx hb dX4_gainOf_75 (by decide) (fun _ => ?_) (fun c0 => absurd c0 (by decide))
        refine lv_aload_n hx hb dX4_gainOf_87 rfl (lv_at hl 2 rfl) ?_
        refine va_get (D := D) (ci := 4) (v := .ref (A 10)) (C := RX4) (T := TX4) (N := 8) hx hb hts hw4 hown hK hP 0 cX_at0 rfl 1 (by decide) k16 (fun _ h9 => h9) rfl dX4_gainOf_88 ?_
        refine lv_aload_n hx hb dX4_gainOf_91 rfl (lv_at hl 2 rfl) ?_
        refine va_get (D := D) (ci := 4) (v := .ref (A 10)) (C := RX4) (T := TX4) (N := 8) hx hb hts hw4 hown hK hP 0 cX_at0 rfl 1 (by decide) k16 (fun _ h9 => h9) rfl dX4_gainOf_92 ?_
        refine va_get (D := D) (ci := 0) (v := .ref (A 17)) (C := RX0) (T := TX0) (N := 12) hx hb hts hw0 hown hK hP 10 cX_at10 rfl 8 (by decide) k86 (fun _ h9 => h9) rfl dX4_gainOf_95 ?_
        refine lv_iload_n hx hb dX4_gainOf_98 rfl (lv_at hl 3 rfl) ?_
        obtain ⟨c_11, hf⟩ := gi_e hf
        refine va_iald hx hb hK hP 17 0 cX_at17 rfl c_11 dX4_gainOf_99 ?_
        obtain ⟨a_12, ha_12, hf⟩ := bd_e hf
        refine Ct.callV (As := [.int (a_1 7 (p1).toNatClampNeg)]) (rest := []) (st1 := [.int a_12]) (c_X0_isIn l D cI (fun j => A (10 + j)) a_1 (a_1 7 (p1).toNatClampNeg) a_12 ha_12) hx hb hml hown hts (cwV 1 hts gX4_gainOf_X0_isIn rfl rfl rfl hd_X0_isIn ⟨Nat.le_of_ble_eq_true rfl, Nat.le_of_ble_eq_true rfl⟩) (va_recv hK hP (ci := 0) (q0 := 10) rfl cX_at10) ln_X_H_t hA hK hP hD hS rfl hl.1 rfl rfl (Nat.le_of_ble_eq_true rfl) dX4_gainOf_100 (fun H locs hP hD hS => ?_)
        refine lv_if_eq (tgt := 110) hx hb dX4_gainOf_103 (by decide) (fun c_13 => ?_) (fun c_13 => ?_)
        · replace hf := if_t c_13 hf
          refine lv_iconst (v := 3) hx hb dX4_gainOf_110 (by decide) ?_
          refine lv_istore (lv' := [(8, .int (3 : Int32)), (7, .int (0 : Int32)), (6, .int (0 : Int32)), (0, .ref (A 0)), (1, .int p1), (2, .int p2), (3, .int p3), (4, .int p4), (5, .int p5)]) hx hb dX4_gainOf_111 hl (by decide) rfl (fun ls hl => ?_)
          refine lv_iload_n hx hb dX4_gainOf_113 rfl (lv_at hl 4 rfl) ?_
          refine lv_iload_n hx hb dX4_gainOf_114 rfl (lv_at hl 5 rfl) ?_
          refine lv_icmp_ne (tgt := 123) hx hb dX4_gainOf_115 (by decide) (fun c_14 => ?_) (fun c_14 => ?_)
          · replace hf := if_f c_14 hf
            refine lv_iload hx hb dX4_gainOf_123 (lv_at hl 1 rfl) ?_
            refine lv_istore (lv' := [(9, .int (0 : Int32)), (8, .int (3 : Int32)), (7, .int (0 : Int32)), (6, .int (0 : Int32)), (0, .ref (A 0)), (1, .int p1), (2, .int p2), (3, .int p3), (4, .int p4), (5, .int p5)]) hx hb dX4_gainOf_125 hl (by decide) rfl (fun ls hl => ?_)
            refine lv_iload hx hb dX4_gainOf_127 (lv_at hl 0 rfl) ?_
            refine lv_if_eq (tgt := 139) hx hb dX4_gainOf_129 (by decide) (fun _ => ?_) (fun c0 => absurd c0 (by decide))
            refine lv_iload hx hb dX4_gainOf_139 (lv_at hl 1 rfl) ?_
            exact hend ((3 : Int32), a_1) H locs _ _ hf hP hS dX4_gainOf_141
          · replace hf := if_t c_14 hf
            refine lv_iload hx hb dX4_gainOf_118 (lv_at hl 2 rfl) ?_
            refine lv_goto (tgt := 125) hx hb dX4_gainOf_120 (by decide) ?_
            refine lv_istore (lv' := [(9, .int (0 : Int32)), (8, .int (3 : Int32)), (7, .int (0 : Int32)), (6, .int (0 : Int32)), (0, .ref (A 0)), (1, .int p1), (2, .int p2), (3, .int p3), (4, .int p4), (5, .int p5)]) hx hb dX4_gainOf_125 hl (by decide) rfl (fun ls hl => ?_)
            refine lv_iload hx hb dX4_gainOf_127 (lv_at hl 0 rfl) ?_
            refine lv_if_eq (tgt := 139) hx hb dX4_gainOf_129 (by decide) (fun _ => ?_) (fun c0 => absurd c0 (by decide))
            refine lv_iload hx hb dX4_gainOf_139 (lv_at hl 1 rfl) ?_
            exact hend ((3 : Int32), a_1) H locs _ _ hf hP hS dX4_gainOf_141
        · replace hf := if_f c_13 hf
          refine lv_iconst (v := 0) hx hb dX4_gainOf_106 (by decide) ?_
          refine lv_goto (tgt := 111) hx hb dX4_gainOf_107 (by decide) ?_
          refine lv_istore (lv' := [(8, .int (0 : Int32)), (7, .int (0 : Int32)), (6, .int (0 : Int32)), (0, .ref (A 0)), (1, .int p1), (2, .int p2), (3, .int p3), (4, .int p4), (5, .int p5)]) hx hb dX4_gainOf_111 hl (by decide) rfl (fun ls hl => ?_)
          refine lv_iload_n hx hb dX4_gainOf_113 rfl (lv_at hl 4 rfl) ?_
          refine lv_iload_n hx hb dX4_gainOf_114 rfl (lv_at hl 5 rfl) ?_
          refine lv_icmp_ne (tgt := 123) hx hb dX4_gainOf_115 (by decide) (fun c_15 => ?_) (fun c_15 => ?_)
          · replace hf := if_f c_15 hf
            refine lv_iload hx hb dX4_gainOf_123 (lv_at hl 1 rfl) ?_
            refine lv_istore (lv' := [(9, .int (0 : Int32)), (8, .int (0 : Int32)), (7, .int (0 : Int32)), (6, .int (0 : Int32)), (0, .ref (A 0)), (1, .int p1), (2, .int p2), (3, .int p3), (4, .int p4), (5, .int p5)]) hx hb dX4_gainOf_125 hl (by decide) rfl (fun ls hl => ?_)
            refine lv_iload hx hb dX4_gainOf_127 (lv_at hl 0 rfl) ?_
            refine lv_if_eq (tgt := 139) hx hb dX4_gainOf_129 (by decide) (fun _ => ?_) (fun c0 => absurd c0 (by decide))
            refine lv_iload hx hb dX4_gainOf_139 (lv_at hl 1 rfl) ?_
            exact hend ((0 : Int32), a_1) H locs _ _ hf hP hS dX4_gainOf_141
          · replace hf := if_t c_15 hf
            refine lv_iload hx hb dX4_gainOf_118 (lv_at hl 2 rfl) ?_
            refine lv_goto (tgt := 125) hx hb dX4_gainOf_120 (by decide) ?_
            refine lv_istore (lv' := [(9, .int (0 : Int32)), (8, .int (0 : Int32)), (7, .int (0 : Int32)), (6, .int (0 : Int32)), (0, .ref (A 0)), (1, .int p1), (2, .int p2), (3, .int p3), (4, .int p4), (5, .int p5)]) hx hb dX4_gainOf_125 hl (by decide) rfl (fun ls hl => ?_)
            refine lv_iload hx hb dX4_gainOf_127 (lv_at hl 0 rfl) ?_
            refine lv_if_eq (tgt := 139) hx hb dX4_gainOf_129 (by decide) (fun _ => ?_) (fun c0 => absurd c0 (by decide))
            refine lv_iload hx hb dX4_gainOf_139 (lv_at hl 1 rfl) ?_
            exact hend ((0 : Int32), a_1) H locs _ _ hf hP hS dX4_gainOf_141
      · replace hf := if_f c_10 hf
        refine lv_iconst (v := 1) hx hb dX4_gainOf_66 (by decide) ?_
        refine lv_goto (tgt := 71) hx hb dX4_gainOf_67 (by decide) ?_
        refine lv_istore (lv' := [(7, .int (1 : Int32)), (6, .int (0 : Int32)), (0, .ref (A 0)), (1, .int p1), (2, .int p2), (3, .int p3), (4, .int p4), (5, .int p5)]) hx hb dX4_gainOf_71 hl (by decide) rfl (fun ls hl => ?_)
        refine lv_iload hx hb dX4_gainOf_73 (lv_at hl 0 rfl) ?_
        refine lv_if_eq (tgt := 87) hx hb dX4_gainOf_75 (by decide) (fun c0 => absurd c0 (by decide)) (fun _ => ?_)
        refine lv_aload_n hx hb dX4_gainOf_78 rfl (lv_at hl 2 rfl) ?_
        refine va_get (D := D) (ci := 4) (v := .ref (A 10)) (C := RX4) (T := TX4) (N := 8) hx hb hts hw4 hown hK hP 0 cX_at0 rfl 1 (by decide) k16 (fun _ h9 => h9) rfl dX4_gainOf_79 ?_
        refine lv_iload_n hx hb dX4_gainOf_82 rfl (lv_at hl 5 rfl) ?_
        obtain ⟨a_16, ha_16, hf⟩ := bd_e hf
        refine Ct.callV (As := [.int p3]) (rest := []) (st1 := [.int a_16.1]) (c_X0_word l D cI (fun j => A (10 + j)) a_1 p3 a_16 ha_16) hx hb hml hown hts (cwV 1 hts gX4_gainOf_X0_word rfl rfl rfl hd_X0_word ⟨Nat.le_of_ble_eq_true rfl, Nat.le_of_ble_eq_true rfl⟩) (va_recv hK hP (ci := 0) (q0 := 10) rfl cX_at10) ln_X_H_t hA hK hP hD hS rfl hl.1 rfl rfl (Nat.le_of_ble_eq_true rfl) dX4_gainOf_83 (fun H locs hP hD hS => ?_)
        replace hP : va_P D vwCl (cX cI A n a_16.2 k g w z q) H := hP
        replace hD : va_D AA (cX cI A n a_16.2 k g w z q) := hD
        refine lv_pop hx hb dX4_gainOf_86 rfl ?_
        refine lv_aload_n hx hb dX4_gainOf_87 rfl (lv_at hl 2 rfl) ?_
        refine va_get (D := D) (ci := 4) (v := .ref (A 10)) (C := RX4) (T := TX4) (N := 8) hx hb hts hw4 hown hK hP 0 cX_at0 rfl 1 (by decide) k16 (fun _ h9 => h9) rfl dX4_gainOf_88 ?_
        refine lv_aload_n hx hb dX4_gainOf_91 rfl (lv_at hl 2 rfl) ?_
        refine va_get (D := D) (ci := 4) (v := .ref (A 10)) (C := RX4) (T := TX4) (N := 8) hx hb hts hw4 hown hK hP 0 cX_at0 rfl 1 (by decide) k16 (fun _ h9 => h9) rfl dX4_gainOf_92 ?_
        refine va_get (D := D) (ci := 0) (v := .ref (A 17)) (C := RX0) (T := TX0) (N := 12) hx hb hts hw0 hown hK hP 10 cX_at10 rfl 8 (by decide) k86 (fun _ h9 => h9) rfl dX4_gainOf_95 ?_
        refine lv_iload_n hx hb dX4_gainOf_98 rfl (lv_at hl 3 rfl) ?_
        obtain ⟨c_17, hf⟩ := gi_e hf
        refine va_iald hx hb hK hP 17 0 cX_at17 rfl c_17 dX4_gainOf_99 ?_
        obtain ⟨a_18, ha_18, hf⟩ := bd_e hf
        refine Ct.callV (As := [.int (a_16.2 7 (p1).toNatClampNeg)]) (rest := []) (st1 := [.int a_18]) (c_X0_isIn l D cI (fun j => A (10 + j)) a_16.2 (a_16.2 7 (p1).toNatClampNeg) a_18 ha_18) hx hb hml hown hts (cwV 1 hts gX4_gainOf_X0_isIn rfl rfl rfl hd_X0_isIn ⟨Nat.le_of_ble_eq_true rfl, Nat.le_of_ble_eq_true rfl⟩) (va_recv hK hP (ci := 0) (q0 := 10) rfl cX_at10) ln_X_H_t hA hK hP hD hS rfl hl.1 rfl rfl (Nat.le_of_ble_eq_true rfl) dX4_gainOf_100 (fun H locs hP hD hS => ?_)
        refine lv_if_eq (tgt := 110) hx hb dX4_gainOf_103 (by decide) (fun c_19 => ?_) (fun c_19 => ?_)
        · replace hf := if_t c_19 hf
          refine lv_iconst (v := 3) hx hb dX4_gainOf_110 (by decide) ?_
          refine lv_istore (lv' := [(8, .int (3 : Int32)), (7, .int (1 : Int32)), (6, .int (0 : Int32)), (0, .ref (A 0)), (1, .int p1), (2, .int p2), (3, .int p3), (4, .int p4), (5, .int p5)]) hx hb dX4_gainOf_111 hl (by decide) rfl (fun ls hl => ?_)
          refine lv_iload_n hx hb dX4_gainOf_113 rfl (lv_at hl 4 rfl) ?_
          refine lv_iload_n hx hb dX4_gainOf_114 rfl (lv_at hl 5 rfl) ?_
          refine lv_icmp_ne (tgt := 123) hx hb dX4_gainOf_115 (by decide) (fun c_20 => ?_) (fun c_20 => ?_)
          · replace hf := if_f c_20 hf
            refine lv_iload hx hb dX4_gainOf_123 (lv_at hl 1 rfl) ?_
            refine lv_istore (lv' := [(9, .int (1 : Int32)), (8, .int (3 : Int32)), (7, .int (1 : Int32)), (6, .int (0 : Int32)), (0, .ref (A 0)), (1, .int p1), (2, .int p2), (3, .int p3), (4, .int p4), (5, .int p5)]) hx hb dX4_gainOf_125 hl (by decide) rfl (fun ls hl => ?_)
            refine lv_iload hx hb dX4_gainOf_127 (lv_at hl 0 rfl) ?_
            refine lv_if_eq (tgt := 139) hx hb dX4_gainOf_129 (by decide) (fun c0 => absurd c0 (by decide)) (fun _ => ?_)
            refine lv_iload hx hb dX4_gainOf_132 (lv_at hl 1 rfl) ?_
            refine lv_iconst (v := 1) hx hb dX4_gainOf_134 (by decide) ?_
            refine lv_isub hx hb dX4_gainOf_135 ?_
            refine lv_goto (tgt := 141) hx hb dX4_gainOf_136 (by decide) ?_
            exact hend (((3 : Int32) - (1 : Int32)), a_16.2) H locs _ _ hf hP hS dX4_gainOf_141
          · replace hf := if_t c_20 hf
            refine lv_iload hx hb dX4_gainOf_118 (lv_at hl 2 rfl) ?_
            refine lv_goto (tgt := 125) hx hb dX4_gainOf_120 (by decide) ?_
            refine lv_istore (lv' := [(9, .int (0 : Int32)), (8, .int (3 : Int32)), (7, .int (1 : Int32)), (6, .int (0 : Int32)), (0, .ref (A 0)), (1, .int p1), (2, .int p2), (3, .int p3), (4, .int p4), (5, .int p5)]) hx hb dX4_gainOf_125 hl (by decide) rfl (fun ls hl => ?_)
            refine lv_iload hx hb dX4_gainOf_127 (lv_at hl 0 rfl) ?_
            refine lv_if_eq (tgt := 139) hx hb dX4_gainOf_129 (by decide) (fun _ => ?_) (fun c0 => absurd c0 (by decide))
            refine lv_iload hx hb dX4_gainOf_139 (lv_at hl 1 rfl) ?_
            exact hend ((3 : Int32), a_16.2) H locs _ _ hf hP hS dX4_gainOf_141
        · replace hf := if_f c_19 hf
          refine lv_iconst (v := 0) hx hb dX4_gainOf_106 (by decide) ?_
          refine lv_goto (tgt := 111) hx hb dX4_gainOf_107 (by decide) ?_
          refine lv_istore (lv' := [(8, .int (0 : Int32)), (7, .int (1 : Int32)), (6, .int (0 : Int32)), (0, .ref (A 0)), (1, .int p1), (2, .int p2), (3, .int p3), (4, .int p4), (5, .int p5)]) hx hb dX4_gainOf_111 hl (by decide) rfl (fun ls hl => ?_)
          refine lv_iload_n hx hb dX4_gainOf_113 rfl (lv_at hl 4 rfl) ?_
          refine lv_iload_n hx hb dX4_gainOf_114 rfl (lv_at hl 5 rfl) ?_
          refine lv_icmp_ne (tgt := 123) hx hb dX4_gainOf_115 (by decide) (fun c_21 => ?_) (fun c_21 => ?_)
          · replace hf := if_f c_21 hf
            refine lv_iload hx hb dX4_gainOf_123 (lv_at hl 1 rfl) ?_
            refine lv_istore (lv' := [(9, .int (1 : Int32)), (8, .int (0 : Int32)), (7, .int (1 : Int32)), (6, .int (0 : Int32)), (0, .ref (A 0)), (1, .int p1), (2, .int p2), (3, .int p3), (4, .int p4), (5, .int p5)]) hx hb dX4_gainOf_125 hl (by decide) rfl (fun ls hl => ?_)
            refine lv_iload hx hb dX4_gainOf_127 (lv_at hl 0 rfl) ?_
            refine lv_if_eq (tgt := 139) hx hb dX4_gainOf_129 (by decide) (fun c0 => absurd c0 (by decide)) (fun _ => ?_)
            refine lv_iload hx hb dX4_gainOf_132 (lv_at hl 1 rfl) ?_
            refine lv_iconst (v := 1) hx hb dX4_gainOf_134 (by decide) ?_
            refine lv_isub hx hb dX4_gainOf_135 ?_
            refine lv_goto (tgt := 141) hx hb dX4_gainOf_136 (by decide) ?_
            exact hend (((0 : Int32) - (1 : Int32)), a_16.2) H locs _ _ hf hP hS dX4_gainOf_141
          · replace hf := if_t c_21 hf
            refine lv_iload hx hb dX4_gainOf_118 (lv_at hl 2 rfl) ?_
            refine lv_goto (tgt := 125) hx hb dX4_gainOf_120 (by decide) ?_
            refine lv_istore (lv' := [(9, .int (0 : Int32)), (8, .int (0 : Int32)), (7, .int (1 : Int32)), (6, .int (0 : Int32)), (0, .ref (A 0)), (1, .int p1), (2, .int p2), (3, .int p3), (4, .int p4), (5, .int p5)]) hx hb dX4_gainOf_125 hl (by decide) rfl (fun ls hl => ?_)
            refine lv_iload hx hb dX4_gainOf_127 (lv_at hl 0 rfl) ?_
            refine lv_if_eq (tgt := 139) hx hb dX4_gainOf_129 (by decide) (fun _ => ?_) (fun c0 => absurd c0 (by decide))
            refine lv_iload hx hb dX4_gainOf_139 (lv_at hl 1 rfl) ?_
            exact hend ((0 : Int32), a_16.2) H locs _ _ hf hP hS dX4_gainOf_141
  · replace hf := if_t c_2 hf
    refine lv_aload_n hx hb dX4_gainOf_17 rfl (lv_at hl 0 rfl) ?_
    refine va_get (D := D) (ci := 4) (v := .ref (A 10)) (C := RX4) (T := TX4) (N := 8) hx hb hts hw4 hown hK hP 0 cX_at0 rfl 1 (by decide) k16 (fun _ h9 => h9) rfl dX4_gainOf_18 ?_
    refine lv_iload_n hx hb dX4_gainOf_21 rfl (lv_at hl 2 rfl) ?_
    obtain ⟨a_22, ha_22, hf⟩ := bd_e hf
    refine Ct.callV (As := [.int p2]) (rest := []) (st1 := [.int a_22]) (c_X0_canTell l D cI (fun j => A (10 + j)) a_1 p2 a_22 ha_22) hx hb hml hown hts (cwV 1 hts gX4_gainOf_X0_canTell rfl rfl rfl hd_X0_canTell ⟨Nat.le_of_ble_eq_true rfl, Nat.le_of_ble_eq_true rfl⟩) (va_recv hK hP (ci := 0) (q0 := 10) rfl cX_at10) ln_X_H_t hA hK hP hD hS rfl hl.1 rfl rfl (Nat.le_of_ble_eq_true rfl) dX4_gainOf_22 (fun H locs hP hD hS => ?_)
    refine lv_if_eq (tgt := 32) hx hb dX4_gainOf_25 (by decide) (fun c_23 => ?_) (fun c_23 => ?_)
    · replace hf := if_t c_23 hf
      refine lv_iconst (v := 0) hx hb dX4_gainOf_32 (by decide) ?_
      refine lv_istore (lv' := [(6, .int (0 : Int32)), (0, .ref (A 0)), (1, .int p1), (2, .int p2), (3, .int p3), (4, .int p4), (5, .int p5)]) hx hb dX4_gainOf_33 hl (by decide) rfl (fun ls hl => ?_)
      refine lv_iload hx hb dX4_gainOf_35 (lv_at hl 0 rfl) ?_
      refine lv_if_eq (tgt := 49) hx hb dX4_gainOf_37 (by decide) (fun _ => ?_) (fun c0 => absurd c0 (by decide))
      refine lv_iload hx hb dX4_gainOf_49 (lv_at hl 6 rfl) ?_
      refine lv_iconst (v := 1) hx hb dX4_gainOf_51 (by decide) ?_
      refine lv_icmp_ne (tgt := 70) hx hb dX4_gainOf_52 (by decide) (fun c_24 => ?_) (fun c_24 => ?_)
      · replace hf := if_f c_24 hf
        refine lv_iconst (v := 0) hx hb dX4_gainOf_70 (by decide) ?_
        refine lv_istore (lv' := [(7, .int (0 : Int32)), (6, .int (0 : Int32)), (0, .ref (A 0)), (1, .int p1), (2, .int p2), (3, .int p3), (4, .int p4), (5, .int p5)]) hx hb dX4_gainOf_71 hl (by decide) rfl (fun ls hl => ?_)
        refine lv_iload hx hb dX4_gainOf_73 (lv_at hl 0 rfl) ?_
        refine lv_if_eq (tgt := 87) hx hb dX4_gainOf_75 (by decide) (fun _ => ?_) (fun c0 => absurd c0 (by decide))
        refine lv_aload_n hx hb dX4_gainOf_87 rfl (lv_at hl 2 rfl) ?_
        refine va_get (D := D) (ci := 4) (v := .ref (A 10)) (C := RX4) (T := TX4) (N := 8) hx hb hts hw4 hown hK hP 0 cX_at0 rfl 1 (by decide) k16 (fun _ h9 => h9) rfl dX4_gainOf_88 ?_
        refine lv_aload_n hx hb dX4_gainOf_91 rfl (lv_at hl 2 rfl) ?_
        refine va_get (D := D) (ci := 4) (v := .ref (A 10)) (C := RX4) (T := TX4) (N := 8) hx hb hts hw4 hown hK hP 0 cX_at0 rfl 1 (by decide) k16 (fun _ h9 => h9) rfl dX4_gainOf_92 ?_
        refine va_get (D := D) (ci := 0) (v := .ref (A 17)) (C := RX0) (T := TX0) (N := 12) hx hb hts hw0 hown hK hP 10 cX_at10 rfl 8 (by decide) k86 (fun _ h9 => h9) rfl dX4_gainOf_95 ?_
        refine lv_iload_n hx hb dX4_gainOf_98 rfl (lv_at hl 3 rfl) ?_
        obtain ⟨c_25, hf⟩ := gi_e hf
        refine va_iald hx hb hK hP 17 0 cX_at17 rfl c_25 dX4_gainOf_99 ?_
        obtain ⟨a_26, ha_26, hf⟩ := bd_e hf
        refine Ct.callV (As := [.int (a_1 7 (p1).toNatClampNeg)]) (rest := []) (st1 := [.int a_26]) (c_X0_isIn l D cI (fun j => A (10 + j)) a_1 (a_1 7 (p1).toNatClampNeg) a_26 ha_26) hx hb hml hown hts (cwV 1 hts gX4_gainOf_X0_isIn rfl rfl rfl hd_X0_isIn ⟨Nat.le_of_ble_eq_true rfl, Nat.le_of_ble_eq_true rfl⟩) (va_recv hK hP (ci := 0) (q0 := 10) rfl cX_at10) ln_X_H_t hA hK hP hD hS rfl hl.1 rfl rfl (Nat.le_of_ble_eq_true rfl) dX4_gainOf_100 (fun H locs hP hD hS => ?_)
        refine lv_if_eq (tgt := 110) hx hb dX4_gainOf_103 (by decide) (fun c_27 => ?_) (fun c_27 => ?_)
        · replace hf := if_t c_27 hf
          refine lv_iconst (v := 3) hx hb dX4_gainOf_110 (by decide) ?_
          refine lv_istore (lv' := [(8, .int (3 : Int32)), (7, .int (0 : Int32)), (6, .int (0 : Int32)), (0, .ref (A 0)), (1, .int p1), (2, .int p2), (3, .int p3), (4, .int p4), (5, .int p5)]) hx hb dX4_gainOf_111 hl (by decide) rfl (fun ls hl => ?_)
          refine lv_iload_n hx hb dX4_gainOf_113 rfl (lv_at hl 4 rfl) ?_
          refine lv_iload_n hx hb dX4_gainOf_114 rfl (lv_at hl 5 rfl) ?_
          refine lv_icmp_ne (tgt := 123) hx hb dX4_gainOf_115 (by decide) (fun c_28 => ?_) (fun c_28 => ?_)
          · replace hf := if_f c_28 hf
            refine lv_iload hx hb dX4_gainOf_123 (lv_at hl 1 rfl) ?_
            refine lv_istore (lv' := [(9, .int (0 : Int32)), (8, .int (3 : Int32)), (7, .int (0 : Int32)), (6, .int (0 : Int32)), (0, .ref (A 0)), (1, .int p1), (2, .int p2), (3, .int p3), (4, .int p4), (5, .int p5)]) hx hb dX4_gainOf_125 hl (by decide) rfl (fun ls hl => ?_)
            refine lv_iload hx hb dX4_gainOf_127 (lv_at hl 0 rfl) ?_
            refine lv_if_eq (tgt := 139) hx hb dX4_gainOf_129 (by decide) (fun _ => ?_) (fun c0 => absurd c0 (by decide))
            refine lv_iload hx hb dX4_gainOf_139 (lv_at hl 1 rfl) ?_
            exact hend ((3 : Int32), a_1) H locs _ _ hf hP hS dX4_gainOf_141
          · replace hf := if_t c_28 hf
            refine lv_iload hx hb dX4_gainOf_118 (lv_at hl 2 rfl) ?_
            refine lv_goto (tgt := 125) hx hb dX4_gainOf_120 (by decide) ?_
            refine lv_istore (lv' := [(9, .int (0 : Int32)), (8, .int (3 : Int32)), (7, .int (0 : Int32)), (6, .int (0 : Int32)), (0, .ref (A 0)), (1, .int p1), (2, .int p2), (3, .int p3), (4, .int p4), (5, .int p5)]) hx hb dX4_gainOf_125 hl (by decide) rfl (fun ls hl => ?_)
            refine lv_iload hx hb dX4_gainOf_127 (lv_at hl 0 rfl) ?_
            refine lv_if_eq (tgt := 139) hx hb dX4_gainOf_129 (by decide) (fun _ => ?_) (fun c0 => absurd c0 (by decide))
            refine lv_iload hx hb dX4_gainOf_139 (lv_at hl 1 rfl) ?_
            exact hend ((3 : Int32), a_1) H locs _ _ hf hP hS dX4_gainOf_141
        · replace hf := if_f c_27 hf
          refine lv_iconst (v := 0) hx hb dX4_gainOf_106 (by decide) ?_
          refine lv_goto (tgt := 111) hx hb dX4_gainOf_107 (by decide) ?_
          refine lv_istore (lv' := [(8, .int (0 : Int32)), (7, .int (0 : Int32)), (6, .int (0 : Int32)), (0, .ref (A 0)), (1, .int p1), (2, .int p2), (3, .int p3), (4, .int p4), (5, .int p5)]) hx hb dX4_gainOf_111 hl (by decide) rfl (fun ls hl => ?_)
          refine lv_iload_n hx hb dX4_gainOf_113 rfl (lv_at hl 4 rfl) ?_
          refine lv_iload_n hx hb dX4_gainOf_114 rfl (lv_at hl 5 rfl) ?_
          refine lv_icmp_ne (tgt := 123) hx hb dX4_gainOf_115 (by decide) (fun c_29 => ?_) (fun c_29 => ?_)
          · replace hf := if_f c_29 hf
            refine lv_iload hx hb dX4_gainOf_123 (lv_at hl 1 rfl) ?_
            refine lv_istore (lv' := [(9, .int (0 : Int32)), (8, .int (0 : Int32)), (7, .int (0 : Int32)), (6, .int (0 : Int32)), (0, .ref (A 0)), (1, .int p1), (2, .int p2), (3, .int p3), (4, .int p4), (5, .int p5)]) hx hb dX4_gainOf_125 hl (by decide) rfl (fun ls hl => ?_)
            refine lv_iload hx hb dX4_gainOf_127 (lv_at hl 0 rfl) ?_
            refine lv_if_eq (tgt := 139) hx hb dX4_gainOf_129 (by decide) (fun _ => ?_) (fun c0 => absurd c0 (by decide))
            refine lv_iload hx hb dX4_gainOf_139 (lv_at hl 1 rfl) ?_
            exact hend ((0 : Int32), a_1) H locs _ _ hf hP hS dX4_gainOf_141
          · replace hf := if_t c_29 hf
            refine lv_iload hx hb dX4_gainOf_118 (lv_at hl 2 rfl) ?_
            refine lv_goto (tgt := 125) hx hb dX4_gainOf_120 (by decide) ?_
            refine lv_istore (lv' := [(9, .int (0 : Int32)), (8, .int (0 : Int32)), (7, .int (0 : Int32)), (6, .int (0 : Int32)), (0, .ref (A 0)), (1, .int p1), (2, .int p2), (3, .int p3), (4, .int p4), (5, .int p5)]) hx hb dX4_gainOf_125 hl (by decide) rfl (fun ls hl => ?_)
            refine lv_iload hx hb dX4_gainOf_127 (lv_at hl 0 rfl) ?_
            refine lv_if_eq (tgt := 139) hx hb dX4_gainOf_129 (by decide) (fun _ => ?_) (fun c0 => absurd c0 (by decide))
            refine lv_iload hx hb dX4_gainOf_139 (lv_at hl 1 rfl) ?_
            exact hend ((0 : Int32), a_1) H locs _ _ hf hP hS dX4_gainOf_141
      · replace hf := if_t c_24 hf
        refine lv_aload_n hx hb dX4_gainOf_55 rfl (lv_at hl 1 rfl) ?_
        refine va_get (D := D) (ci := 4) (v := .ref (A 10)) (C := RX4) (T := TX4) (N := 8) hx hb hts hw4 hown hK hP 0 cX_at0 rfl 1 (by decide) k16 (fun _ h9 => h9) rfl dX4_gainOf_56 ?_
        refine lv_iload_n hx hb dX4_gainOf_59 rfl (lv_at hl 4 rfl) ?_
        obtain ⟨a_30, ha_30, hf⟩ := bd_e hf
        refine Ct.callV (As := [.int p3]) (rest := []) (st1 := [.int a_30]) (c_X0_canTell l D cI (fun j => A (10 + j)) a_1 p3 a_30 ha_30) hx hb hml hown hts (cwV 1 hts gX4_gainOf_X0_canTell rfl rfl rfl hd_X0_canTell ⟨Nat.le_of_ble_eq_true rfl, Nat.le_of_ble_eq_true rfl⟩) (va_recv hK hP (ci := 0) (q0 := 10) rfl cX_at10) ln_X_H_t hA hK hP hD hS rfl hl.1 rfl rfl (Nat.le_of_ble_eq_true rfl) dX4_gainOf_60 (fun H locs hP hD hS => ?_)
        refine lv_if_eq (tgt := 70) hx hb dX4_gainOf_63 (by decide) (fun c_31 => ?_) (fun c_31 => ?_)
        · replace hf := if_t c_31 hf
          refine lv_iconst (v := 0) hx hb dX4_gainOf_70 (by decide) ?_
          refine lv_istore (lv' := [(7, .int (0 : Int32)), (6, .int (0 : Int32)), (0, .ref (A 0)), (1, .int p1), (2, .int p2), (3, .int p3), (4, .int p4), (5, .int p5)]) hx hb dX4_gainOf_71 hl (by decide) rfl (fun ls hl => ?_)
          refine lv_iload hx hb dX4_gainOf_73 (lv_at hl 0 rfl) ?_
          refine lv_if_eq (tgt := 87) hx hb dX4_gainOf_75 (by decide) (fun _ => ?_) (fun c0 => absurd c0 (by decide))
          refine lv_aload_n hx hb dX4_gainOf_87 rfl (lv_at hl 2 rfl) ?_
          refine va_get (D := D) (ci := 4) (v := .ref (A 10)) (C := RX4) (T := TX4) (N := 8) hx hb hts hw4 hown hK hP 0 cX_at0 rfl 1 (by decide) k16 (fun _ h9 => h9) rfl dX4_gainOf_88 ?_
          refine lv_aload_n hx hb dX4_gainOf_91 rfl (lv_at hl 2 rfl) ?_
          refine va_get (D := D) (ci := 4) (v := .ref (A 10)) (C := RX4) (T := TX4) (N := 8) hx hb hts hw4 hown hK hP 0 cX_at0 rfl 1 (by decide) k16 (fun _ h9 => h9) rfl dX4_gainOf_92 ?_
          refine va_get (D := D) (ci := 0) (v := .ref (A 17)) (C := RX0) (T := TX0) (N := 12) hx hb hts hw0 hown hK hP 10 cX_at10 rfl 8 (by decide) k86 (fun _ h9 => h9) rfl dX4_gainOf_95 ?_
          refine lv_iload_n hx hb dX4_gainOf_98 rfl (lv_at hl 3 rfl) ?_
          obtain ⟨c_32, hf⟩ := gi_e hf
          refine va_iald hx hb hK hP 17 0 cX_at17 rfl c_32 dX4_gainOf_99 ?_
          obtain ⟨a_33, ha_33, hf⟩ := bd_e hf
          refine Ct.callV (As := [.int (a_1 7 (p1).toNatClampNeg)]) (rest := []) (st1 := [.int a_33]) (c_X0_isIn l D cI (fun j => A (10 + j)) a_1 (a_1 7 (p1).toNatClampNeg) a_33 ha_33) hx hb hml hown hts (cwV 1 hts gX4_gainOf_X0_isIn rfl rfl rfl hd_X0_isIn ⟨Nat.le_of_ble_eq_true rfl, Nat.le_of_ble_eq_true rfl⟩) (va_recv hK hP (ci := 0) (q0 := 10) rfl cX_at10) ln_X_H_t hA hK hP hD hS rfl hl.1 rfl rfl (Nat.le_of_ble_eq_true rfl) dX4_gainOf_100 (fun H locs hP hD hS => ?_)
          refine lv_if_eq (tgt := 110) hx hb dX4_gainOf_103 (by decide) (fun c_34 => ?_) (fun c_34 => ?_)
          · replace hf := if_t c_34 hf
            refine lv_iconst (v := 3) hx hb dX4_gainOf_110 (by decide) ?_
            refine lv_istore (lv' := [(8, .int (3 : Int32)), (7, .int (0 : Int32)), (6, .int (0 : Int32)), (0, .ref (A 0)), (1, .int p1), (2, .int p2), (3, .int p3), (4, .int p4), (5, .int p5)]) hx hb dX4_gainOf_111 hl (by decide) rfl (fun ls hl => ?_)
            refine lv_iload_n hx hb dX4_gainOf_113 rfl (lv_at hl 4 rfl) ?_
            refine lv_iload_n hx hb dX4_gainOf_114 rfl (lv_at hl 5 rfl) ?_
            refine lv_icmp_ne (tgt := 123) hx hb dX4_gainOf_115 (by decide) (fun c_35 => ?_) (fun c_35 => ?_)
            · replace hf := if_f c_35 hf
              refine lv_iload hx hb dX4_gainOf_123 (lv_at hl 1 rfl) ?_
              refine lv_istore (lv' := [(9, .int (0 : Int32)), (8, .int (3 : Int32)), (7, .int (0 : Int32)), (6, .int (0 : Int32)), (0, .ref (A 0)), (1, .int p1), (2, .int p2), (3, .int p3), (4, .int p4), (5, .int p5)]) hx hb dX4_gainOf_125 hl (by decide) rfl (fun ls hl => ?_)
              refine lv_iload hx hb dX4_gainOf_127 (lv_at hl 0 rfl) ?_
              refine lv_if_eq (tgt := 139) hx hb dX4_gainOf_129 (by decide) (fun _ => ?_) (fun c0 => absurd c0 (by decide))
              refine lv_iload hx hb dX4_gainOf_139 (lv_at hl 1 rfl) ?_
              exact hend ((3 : Int32), a_1) H locs _ _ hf hP hS dX4_gainOf_141
            · replace hf := if_t c_35 hf
              refine lv_iload hx hb dX4_gainOf_118 (lv_at hl 2 rfl) ?_
              refine lv_goto (tgt := 125) hx hb dX4_gainOf_120 (by decide) ?_
              refine lv_istore (lv' := [(9, .int (0 : Int32)), (8, .int (3 : Int32)), (7, .int (0 : Int32)), (6, .int (0 : Int32)), (0, .ref (A 0)), (1, .int p1), (2, .int p2), (3, .int p3), (4, .int p4), (5, .int p5)]) hx hb dX4_gainOf_125 hl (by decide) rfl (fun ls hl => ?_)
              refine lv_iload hx hb dX4_gainOf_127 (lv_at hl 0 rfl) ?_
              refine lv_if_eq (tgt := 139) hx hb dX4_gainOf_129 (by decide) (fun _ => ?_) (fun c0 => absurd c0 (by decide))
              refine lv_iload hx hb dX4_gainOf_139 (lv_at hl 1 rfl) ?_
              exact hend ((3 : Int32), a_1) H locs _ _ hf hP hS dX4_gainOf_141
          · replace hf := if_f c_34 hf
            refine lv_iconst (v := 0) hx hb dX4_gainOf_106 (by decide) ?_
            refine lv_goto (tgt := 111) hx hb dX4_gainOf_107 (by decide) ?_
            refine lv_istore (lv' := [(8, .int (0 : Int32)), (7, .int (0 : Int32)), (6, .int (0 : Int32)), (0, .ref (A 0)), (1, .int p1), (2, .int p2), (3, .int p3), (4, .int p4), (5, .int p5)]) hx hb dX4_gainOf_111 hl (by decide) rfl (fun ls hl => ?_)
            refine lv_iload_n hx hb dX4_gainOf_113 rfl (lv_at hl 4 rfl) ?_
            refine lv_iload_n hx hb dX4_gainOf_114 rfl (lv_at hl 5 rfl) ?_
            refine lv_icmp_ne (tgt := 123) hx hb dX4_gainOf_115 (by decide) (fun c_36 => ?_) (fun c_36 => ?_)
            · replace hf := if_f c_36 hf
              refine lv_iload hx hb dX4_gainOf_123 (lv_at hl 1 rfl) ?_
              refine lv_istore (lv' := [(9, .int (0 : Int32)), (8, .int (0 : Int32)), (7, .int (0 : Int32)), (6, .int (0 : Int32)), (0, .ref (A 0)), (1, .int p1), (2, .int p2), (3, .int p3), (4, .int p4), (5, .int p5)]) hx hb dX4_gainOf_125 hl (by decide) rfl (fun ls hl => ?_)
              refine lv_iload hx hb dX4_gainOf_127 (lv_at hl 0 rfl) ?_
              refine lv_if_eq (tgt := 139) hx hb dX4_gainOf_129 (by decide) (fun _ => ?_) (fun c0 => absurd c0 (by decide))
              refine lv_iload hx hb dX4_gainOf_139 (lv_at hl 1 rfl) ?_
              exact hend ((0 : Int32), a_1) H locs _ _ hf hP hS dX4_gainOf_141
            · replace hf := if_t c_36 hf
              refine lv_iload hx hb dX4_gainOf_118 (lv_at hl 2 rfl) ?_
              refine lv_goto (tgt := 125) hx hb dX4_gainOf_120 (by decide) ?_
              refine lv_istore (lv' := [(9, .int (0 : Int32)), (8, .int (0 : Int32)), (7, .int (0 : Int32)), (6, .int (0 : Int32)), (0, .ref (A 0)), (1, .int p1), (2, .int p2), (3, .int p3), (4, .int p4), (5, .int p5)]) hx hb dX4_gainOf_125 hl (by decide) rfl (fun ls hl => ?_)
              refine lv_iload hx hb dX4_gainOf_127 (lv_at hl 0 rfl) ?_
              refine lv_if_eq (tgt := 139) hx hb dX4_gainOf_129 (by decide) (fun _ => ?_) (fun c0 => absurd c0 (by decide))
              refine lv_iload hx hb dX4_gainOf_139 (lv_at hl 1 rfl) ?_
              exact hend ((0 : Int32), a_1) H locs _ _ hf hP hS dX4_gainOf_141
        · replace hf := if_f c_31 hf
          refine lv_iconst (v := 1) hx hb dX4_gainOf_66 (by decide) ?_
          refine lv_goto (tgt := 71) hx hb dX4_gainOf_67 (by decide) ?_
          refine lv_istore (lv' := [(7, .int (1 : Int32)), (6, .int (0 : Int32)), (0, .ref (A 0)), (1, .int p1), (2, .int p2), (3, .int p3), (4, .int p4), (5, .int p5)]) hx hb dX4_gainOf_71 hl (by decide) rfl (fun ls hl => ?_)
          refine lv_iload hx hb dX4_gainOf_73 (lv_at hl 0 rfl) ?_
          refine lv_if_eq (tgt := 87) hx hb dX4_gainOf_75 (by decide) (fun c0 => absurd c0 (by decide)) (fun _ => ?_)
          refine lv_aload_n hx hb dX4_gainOf_78 rfl (lv_at hl 2 rfl) ?_
          refine va_get (D := D) (ci := 4) (v := .ref (A 10)) (C := RX4) (T := TX4) (N := 8) hx hb hts hw4 hown hK hP 0 cX_at0 rfl 1 (by decide) k16 (fun _ h9 => h9) rfl dX4_gainOf_79 ?_
          refine lv_iload_n hx hb dX4_gainOf_82 rfl (lv_at hl 5 rfl) ?_
          obtain ⟨a_37, ha_37, hf⟩ := bd_e hf
          refine Ct.callV (As := [.int p3]) (rest := []) (st1 := [.int a_37.1]) (c_X0_word l D cI (fun j => A (10 + j)) a_1 p3 a_37 ha_37) hx hb hml hown hts (cwV 1 hts gX4_gainOf_X0_word rfl rfl rfl hd_X0_word ⟨Nat.le_of_ble_eq_true rfl, Nat.le_of_ble_eq_true rfl⟩) (va_recv hK hP (ci := 0) (q0 := 10) rfl cX_at10) ln_X_H_t hA hK hP hD hS rfl hl.1 rfl rfl (Nat.le_of_ble_eq_true rfl) dX4_gainOf_83 (fun H locs hP hD hS => ?_)
          replace hP : va_P D vwCl (cX cI A n a_37.2 k g w z q) H := hP
          replace hD : va_D AA (cX cI A n a_37.2 k g w z q) := hD
          refine lv_pop hx hb dX4_gainOf_86 rfl ?_
          refine lv_aload_n hx hb dX4_gainOf_87 rfl (lv_at hl 2 rfl) ?_
          refine va_get (D := D) (ci := 4) (v := .ref (A 10)) (C := RX4) (T := TX4) (N := 8) hx hb hts hw4 hown hK hP 0 cX_at0 rfl 1 (by decide) k16 (fun _ h9 => h9) rfl dX4_gainOf_88 ?_
          refine lv_aload_n hx hb dX4_gainOf_91 rfl (lv_at hl 2 rfl) ?_
          refine va_get (D := D) (ci := 4) (v := .ref (A 10)) (C := RX4) (T := TX4) (N := 8) hx hb hts hw4 hown hK hP 0 cX_at0 rfl 1 (by decide) k16 (fun _ h9 => h9) rfl dX4_gainOf_92 ?_
          refine va_get (D := D) (ci := 0) (v := .ref (A 17)) (C := RX0) (T := TX0) (N := 12) hx hb hts hw0 hown hK hP 10 cX_at10 rfl 8 (by decide) k86 (fun _ h9 => h9) rfl dX4_gainOf_95 ?_
          refine lv_iload_n hx hb dX4_gainOf_98 rfl (lv_at hl 3 rfl) ?_
          obtain ⟨c_38, hf⟩ := gi_e hf
          refine va_iald hx hb hK hP 17 0 cX_at17 rfl c_38 dX4_gainOf_99 ?_
          obtain ⟨a_39, ha_39, hf⟩ := bd_e hf
          refine Ct.callV (As := [.int (a_37.2 7 (p1).toNatClampNeg)]) (rest := []) (st1 := [.int a_39]) (c_X0_isIn l D cI (fun j => A (10 + j)) a_37.2 (a_37.2 7 (p1).toNatClampNeg) a_39 ha_39) hx hb hml hown hts (cwV 1 hts gX4_gainOf_X0_isIn rfl rfl rfl hd_X0_isIn ⟨Nat.le_of_ble_eq_true rfl, Nat.le_of_ble_eq_true rfl⟩) (va_recv hK hP (ci := 0) (q0 := 10) rfl cX_at10) ln_X_H_t hA hK hP hD hS rfl hl.1 rfl rfl (Nat.le_of_ble_eq_true rfl) dX4_gainOf_100 (fun H locs hP hD hS => ?_)
          refine lv_if_eq (tgt := 110) hx hb dX4_gainOf_103 (by decide) (fun c_40 => ?_) (fun c_40 => ?_)
          · replace hf := if_t c_40 hf
            refine lv_iconst (v := 3) hx hb dX4_gainOf_110 (by decide) ?_
            refine lv_istore (lv' := [(8, .int (3 : Int32)), (7, .int (1 : Int32)), (6, .int (0 : Int32)), (0, .ref (A 0)), (1, .int p1), (2, .int p2), (3, .int p3), (4, .int p4), (5, .int p5)]) hx hb dX4_gainOf_111 hl (by decide) rfl (fun ls hl => ?_)
            refine lv_iload_n hx hb dX4_gainOf_113 rfl (lv_at hl 4 rfl) ?_
            refine lv_iload_n hx hb dX4_gainOf_114 rfl (lv_at hl 5 rfl) ?_
            refine lv_icmp_ne (tgt := 123) hx hb dX4_gainOf_115 (by decide) (fun c_41 => ?_) (fun c_41 => ?_)
            · replace hf := if_f c_41 hf
              refine lv_iload hx hb dX4_gainOf_123 (lv_at hl 1 rfl) ?_
              refine lv_istore (lv' := [(9, .int (1 : Int32)), (8, .int (3 : Int32)), (7, .int (1 : Int32)), (6, .int (0 : Int32)), (0, .ref (A 0)), (1, .int p1), (2, .int p2), (3, .int p3), (4, .int p4), (5, .int p5)]) hx hb dX4_gainOf_125 hl (by decide) rfl (fun ls hl => ?_)
              refine lv_iload hx hb dX4_gainOf_127 (lv_at hl 0 rfl) ?_
              refine lv_if_eq (tgt := 139) hx hb dX4_gainOf_129 (by decide) (fun c0 => absurd c0 (by decide)) (fun _ => ?_)
              refine lv_iload hx hb dX4_gainOf_132 (lv_at hl 1 rfl) ?_
              refine lv_iconst (v := 1) hx hb dX4_gainOf_134 (by decide) ?_
              refine lv_isub hx hb dX4_gainOf_135 ?_
              refine lv_goto (tgt := 141) hx hb dX4_gainOf_136 (by decide) ?_
              exact hend (((3 : Int32) - (1 : Int32)), a_37.2) H locs _ _ hf hP hS dX4_gainOf_141
            · replace hf := if_t c_41 hf
              refine lv_iload hx hb dX4_gainOf_118 (lv_at hl 2 rfl) ?_
              refine lv_goto (tgt := 125) hx hb dX4_gainOf_120 (by decide) ?_
              refine lv_istore (lv' := [(9, .int (0 : Int32)), (8, .int (3 : Int32)), (7, .int (1 : Int32)), (6, .int (0 : Int32)), (0, .ref (A 0)), (1, .int p1), (2, .int p2), (3, .int p3), (4, .int p4), (5, .int p5)]) hx hb dX4_gainOf_125 hl (by decide) rfl (fun ls hl => ?_)
              refine lv_iload hx hb dX4_gainOf_127 (lv_at hl 0 rfl) ?_
              refine lv_if_eq (tgt := 139) hx hb dX4_gainOf_129 (by decide) (fun _ => ?_) (fun c0 => absurd c0 (by decide))
              refine lv_iload hx hb dX4_gainOf_139 (lv_at hl 1 rfl) ?_
              exact hend ((3 : Int32), a_37.2) H locs _ _ hf hP hS dX4_gainOf_141
          · replace hf := if_f c_40 hf
            refine lv_iconst (v := 0) hx hb dX4_gainOf_106 (by decide) ?_
            refine lv_goto (tgt := 111) hx hb dX4_gainOf_107 (by decide) ?_
            refine lv_istore (lv' := [(8, .int (0 : Int32)), (7, .int (1 : Int32)), (6, .int (0 : Int32)), (0, .ref (A 0)), (1, .int p1), (2, .int p2), (3, .int p3), (4, .int p4), (5, .int p5)]) hx hb dX4_gainOf_111 hl (by decide) rfl (fun ls hl => ?_)
            refine lv_iload_n hx hb dX4_gainOf_113 rfl (lv_at hl 4 rfl) ?_
            refine lv_iload_n hx hb dX4_gainOf_114 rfl (lv_at hl 5 rfl) ?_
            refine lv_icmp_ne (tgt := 123) hx hb dX4_gainOf_115 (by decide) (fun c_42 => ?_) (fun c_42 => ?_)
            · replace hf := if_f c_42 hf
              refine lv_iload hx hb dX4_gainOf_123 (lv_at hl 1 rfl) ?_
              refine lv_istore (lv' := [(9, .int (1 : Int32)), (8, .int (0 : Int32)), (7, .int (1 : Int32)), (6, .int (0 : Int32)), (0, .ref (A 0)), (1, .int p1), (2, .int p2), (3, .int p3), (4, .int p4), (5, .int p5)]) hx hb dX4_gainOf_125 hl (by decide) rfl (fun ls hl => ?_)
              refine lv_iload hx hb dX4_gainOf_127 (lv_at hl 0 rfl) ?_
              refine lv_if_eq (tgt := 139) hx hb dX4_gainOf_129 (by decide) (fun c0 => absurd c0 (by decide)) (fun _ => ?_)
              refine lv_iload hx hb dX4_gainOf_132 (lv_at hl 1 rfl) ?_
              refine lv_iconst (v := 1) hx hb dX4_gainOf_134 (by decide) ?_
              refine lv_isub hx hb dX4_gainOf_135 ?_
              refine lv_goto (tgt := 141) hx hb dX4_gainOf_136 (by decide) ?_
              exact hend (((0 : Int32) - (1 : Int32)), a_37.2) H locs _ _ hf hP hS dX4_gainOf_141
            · replace hf := if_t c_42 hf
              refine lv_iload hx hb dX4_gainOf_118 (lv_at hl 2 rfl) ?_
              refine lv_goto (tgt := 125) hx hb dX4_gainOf_120 (by decide) ?_
              refine lv_istore (lv' := [(9, .int (0 : Int32)), (8, .int (0 : Int32)), (7, .int (1 : Int32)), (6, .int (0 : Int32)), (0, .ref (A 0)), (1, .int p1), (2, .int p2), (3, .int p3), (4, .int p4), (5, .int p5)]) hx hb dX4_gainOf_125 hl (by decide) rfl (fun ls hl => ?_)
              refine lv_iload hx hb dX4_gainOf_127 (lv_at hl 0 rfl) ?_
              refine lv_if_eq (tgt := 139) hx hb dX4_gainOf_129 (by decide) (fun _ => ?_) (fun c0 => absurd c0 (by decide))
              refine lv_iload hx hb dX4_gainOf_139 (lv_at hl 1 rfl) ?_
              exact hend ((0 : Int32), a_37.2) H locs _ _ hf hP hS dX4_gainOf_141
    · replace hf := if_f c_23 hf
      refine lv_iconst (v := 1) hx hb dX4_gainOf_28 (by decide) ?_
      refine lv_goto (tgt := 33) hx hb dX4_gainOf_29 (by decide) ?_
      refine lv_istore (lv' := [(6, .int (1 : Int32)), (0, .ref (A 0)), (1, .int p1), (2, .int p2), (3, .int p3), (4, .int p4), (5, .int p5)]) hx hb dX4_gainOf_33 hl (by decide) rfl (fun ls hl => ?_)
      refine lv_iload hx hb dX4_gainOf_35 (lv_at hl 0 rfl) ?_
      refine lv_if_eq (tgt := 49) hx hb dX4_gainOf_37 (by decide) (fun c0 => absurd c0 (by decide)) (fun _ => ?_)
      refine lv_aload_n hx hb dX4_gainOf_40 rfl (lv_at hl 1 rfl) ?_
      refine va_get (D := D) (ci := 4) (v := .ref (A 10)) (C := RX4) (T := TX4) (N := 8) hx hb hts hw4 hown hK hP 0 cX_at0 rfl 1 (by decide) k16 (fun _ h9 => h9) rfl dX4_gainOf_41 ?_
      refine lv_iload_n hx hb dX4_gainOf_44 rfl (lv_at hl 3 rfl) ?_
      obtain ⟨a_43, ha_43, hf⟩ := bd_e hf
      refine Ct.callV (As := [.int p2]) (rest := []) (st1 := [.int a_43.1]) (c_X0_word l D cI (fun j => A (10 + j)) a_1 p2 a_43 ha_43) hx hb hml hown hts (cwV 1 hts gX4_gainOf_X0_word rfl rfl rfl hd_X0_word ⟨Nat.le_of_ble_eq_true rfl, Nat.le_of_ble_eq_true rfl⟩) (va_recv hK hP (ci := 0) (q0 := 10) rfl cX_at10) ln_X_H_t hA hK hP hD hS rfl hl.1 rfl rfl (Nat.le_of_ble_eq_true rfl) dX4_gainOf_45 (fun H locs hP hD hS => ?_)
      replace hP : va_P D vwCl (cX cI A n a_43.2 k g w z q) H := hP
      replace hD : va_D AA (cX cI A n a_43.2 k g w z q) := hD
      refine lv_pop hx hb dX4_gainOf_48 rfl ?_
      refine lv_iload hx hb dX4_gainOf_49 (lv_at hl 6 rfl) ?_
      refine lv_iconst (v := 1) hx hb dX4_gainOf_51 (by decide) ?_
      refine lv_icmp_ne (tgt := 70) hx hb dX4_gainOf_52 (by decide) (fun c_44 => ?_) (fun c_44 => ?_)
      · replace hf := if_f c_44 hf
        refine lv_iconst (v := 0) hx hb dX4_gainOf_70 (by decide) ?_
        refine lv_istore (lv' := [(7, .int (0 : Int32)), (6, .int (1 : Int32)), (0, .ref (A 0)), (1, .int p1), (2, .int p2), (3, .int p3), (4, .int p4), (5, .int p5)]) hx hb dX4_gainOf_71 hl (by decide) rfl (fun ls hl => ?_)
        refine lv_iload hx hb dX4_gainOf_73 (lv_at hl 0 rfl) ?_
        refine lv_if_eq (tgt := 87) hx hb dX4_gainOf_75 (by decide) (fun _ => ?_) (fun c0 => absurd c0 (by decide))
        refine lv_aload_n hx hb dX4_gainOf_87 rfl (lv_at hl 2 rfl) ?_
        refine va_get (D := D) (ci := 4) (v := .ref (A 10)) (C := RX4) (T := TX4) (N := 8) hx hb hts hw4 hown hK hP 0 cX_at0 rfl 1 (by decide) k16 (fun _ h9 => h9) rfl dX4_gainOf_88 ?_
        refine lv_aload_n hx hb dX4_gainOf_91 rfl (lv_at hl 2 rfl) ?_
        refine va_get (D := D) (ci := 4) (v := .ref (A 10)) (C := RX4) (T := TX4) (N := 8) hx hb hts hw4 hown hK hP 0 cX_at0 rfl 1 (by decide) k16 (fun _ h9 => h9) rfl dX4_gainOf_92 ?_
        refine va_get (D := D) (ci := 0) (v := .ref (A 17)) (C := RX0) (T := TX0) (N := 12) hx hb hts hw0 hown hK hP 10 cX_at10 rfl 8 (by decide) k86 (fun _ h9 => h9) rfl dX4_gainOf_95 ?_
        refine lv_iload_n hx hb dX4_gainOf_98 rfl (lv_at hl 3 rfl) ?_
        obtain ⟨c_45, hf⟩ := gi_e hf
        refine va_iald hx hb hK hP 17 0 cX_at17 rfl c_45 dX4_gainOf_99 ?_
        obtain ⟨a_46, ha_46, hf⟩ := bd_e hf
        refine Ct.callV (As := [.int (a_43.2 7 (p1).toNatClampNeg)]) (rest := []) (st1 := [.int a_46]) (c_X0_isIn l D cI (fun j => A (10 + j)) a_43.2 (a_43.2 7 (p1).toNatClampNeg) a_46 ha_46) hx hb hml hown hts (cwV 1 hts gX4_gainOf_X0_isIn rfl rfl rfl hd_X0_isIn ⟨Nat.le_of_ble_eq_true rfl, Nat.le_of_ble_eq_true rfl⟩) (va_recv hK hP (ci := 0) (q0 := 10) rfl cX_at10) ln_X_H_t hA hK hP hD hS rfl hl.1 rfl rfl (Nat.le_of_ble_eq_true rfl) dX4_gainOf_100 (fun H locs hP hD hS => ?_)
        refine lv_if_eq (tgt := 110) hx hb dX4_gainOf_103 (by decide) (fun c_47 => ?_) (fun c_47 => ?_)
        · replace hf := if_t c_47 hf
          refine lv_iconst (v := 3) hx hb dX4_gainOf_110 (by decide) ?_
          refine lv_istore (lv' := [(8, .int (3 : Int32)), (7, .int (0 : Int32)), (6, .int (1 : Int32)), (0, .ref (A 0)), (1, .int p1), (2, .int p2), (3, .int p3), (4, .int p4), (5, .int p5)]) hx hb dX4_gainOf_111 hl (by decide) rfl (fun ls hl => ?_)
          refine lv_iload_n hx hb dX4_gainOf_113 rfl (lv_at hl 4 rfl) ?_
          refine lv_iload_n hx hb dX4_gainOf_114 rfl (lv_at hl 5 rfl) ?_
          refine lv_icmp_ne (tgt := 123) hx hb dX4_gainOf_115 (by decide) (fun c_48 => ?_) (fun c_48 => ?_)
          · replace hf := if_f c_48 hf
            refine lv_iload hx hb dX4_gainOf_123 (lv_at hl 1 rfl) ?_
            refine lv_istore (lv' := [(9, .int (0 : Int32)), (8, .int (3 : Int32)), (7, .int (0 : Int32)), (6, .int (1 : Int32)), (0, .ref (A 0)), (1, .int p1), (2, .int p2), (3, .int p3), (4, .int p4), (5, .int p5)]) hx hb dX4_gainOf_125 hl (by decide) rfl (fun ls hl => ?_)
            refine lv_iload hx hb dX4_gainOf_127 (lv_at hl 0 rfl) ?_
            refine lv_if_eq (tgt := 139) hx hb dX4_gainOf_129 (by decide) (fun _ => ?_) (fun c0 => absurd c0 (by decide))
            refine lv_iload hx hb dX4_gainOf_139 (lv_at hl 1 rfl) ?_
            exact hend ((3 : Int32), a_43.2) H locs _ _ hf hP hS dX4_gainOf_141
          · replace hf := if_t c_48 hf
            refine lv_iload hx hb dX4_gainOf_118 (lv_at hl 2 rfl) ?_
            refine lv_goto (tgt := 125) hx hb dX4_gainOf_120 (by decide) ?_
            refine lv_istore (lv' := [(9, .int (1 : Int32)), (8, .int (3 : Int32)), (7, .int (0 : Int32)), (6, .int (1 : Int32)), (0, .ref (A 0)), (1, .int p1), (2, .int p2), (3, .int p3), (4, .int p4), (5, .int p5)]) hx hb dX4_gainOf_125 hl (by decide) rfl (fun ls hl => ?_)
            refine lv_iload hx hb dX4_gainOf_127 (lv_at hl 0 rfl) ?_
            refine lv_if_eq (tgt := 139) hx hb dX4_gainOf_129 (by decide) (fun c0 => absurd c0 (by decide)) (fun _ => ?_)
            refine lv_iload hx hb dX4_gainOf_132 (lv_at hl 1 rfl) ?_
            refine lv_iconst (v := 1) hx hb dX4_gainOf_134 (by decide) ?_
            refine lv_isub hx hb dX4_gainOf_135 ?_
            refine lv_goto (tgt := 141) hx hb dX4_gainOf_136 (by decide) ?_
            exact hend (((3 : Int32) - (1 : Int32)), a_43.2) H locs _ _ hf hP hS dX4_gainOf_141
        · replace hf := if_f c_47 hf
          refine lv_iconst (v := 0) hx hb dX4_gainOf_106 (by decide) ?_
          refine lv_goto (tgt := 111) hx hb dX4_gainOf_107 (by decide) ?_
          refine lv_istore (lv' := [(8, .int (0 : Int32)), (7, .int (0 : Int32)), (6, .int (1 : Int32)), (0, .ref (A 0)), (1, .int p1), (2, .int p2), (3, .int p3), (4, .int p4), (5, .int p5)]) hx hb dX4_gainOf_111 hl (by decide) rfl (fun ls hl => ?_)
          refine lv_iload_n hx hb dX4_gainOf_113 rfl (lv_at hl 4 rfl) ?_
          refine lv_iload_n hx hb dX4_gainOf_114 rfl (lv_at hl 5 rfl) ?_
          refine lv_icmp_ne (tgt := 123) hx hb dX4_gainOf_115 (by decide) (fun c_49 => ?_) (fun c_49 => ?_)
          · replace hf := if_f c_49 hf
            refine lv_iload hx hb dX4_gainOf_123 (lv_at hl 1 rfl) ?_
            refine lv_istore (lv' := [(9, .int (0 : Int32)), (8, .int (0 : Int32)), (7, .int (0 : Int32)), (6, .int (1 : Int32)), (0, .ref (A 0)), (1, .int p1), (2, .int p2), (3, .int p3), (4, .int p4), (5, .int p5)]) hx hb dX4_gainOf_125 hl (by decide) rfl (fun ls hl => ?_)
            refine lv_iload hx hb dX4_gainOf_127 (lv_at hl 0 rfl) ?_
            refine lv_if_eq (tgt := 139) hx hb dX4_gainOf_129 (by decide) (fun _ => ?_) (fun c0 => absurd c0 (by decide))
            refine lv_iload hx hb dX4_gainOf_139 (lv_at hl 1 rfl) ?_
            exact hend ((0 : Int32), a_43.2) H locs _ _ hf hP hS dX4_gainOf_141
          · replace hf := if_t c_49 hf
            refine lv_iload hx hb dX4_gainOf_118 (lv_at hl 2 rfl) ?_
            refine lv_goto (tgt := 125) hx hb dX4_gainOf_120 (by decide) ?_
            refine lv_istore (lv' := [(9, .int (1 : Int32)), (8, .int (0 : Int32)), (7, .int (0 : Int32)), (6, .int (1 : Int32)), (0, .ref (A 0)), (1, .int p1), (2, .int p2), (3, .int p3), (4, .int p4), (5, .int p5)]) hx hb dX4_gainOf_125 hl (by decide) rfl (fun ls hl => ?_)
            refine lv_iload hx hb dX4_gainOf_127 (lv_at hl 0 rfl) ?_
            refine lv_if_eq (tgt := 139) hx hb dX4_gainOf_129 (by decide) (fun c0 => absurd c0 (by decide)) (fun _ => ?_)
            refine lv_iload hx hb dX4_gainOf_132 (lv_at hl 1 rfl) ?_
            refine lv_iconst (v := 1) hx hb dX4_gainOf_134 (by decide) ?_
            refine lv_isub hx hb dX4_gainOf_135 ?_
            refine lv_goto (tgt := 141) hx hb dX4_gainOf_136 (by decide) ?_
            exact hend (((0 : Int32) - (1 : Int32)), a_43.2) H locs _ _ hf hP hS dX4_gainOf_141
      · replace hf := if_t c_44 hf
        refine lv_aload_n hx hb dX4_gainOf_55 rfl (lv_at hl 1 rfl) ?_
        refine va_get (D := D) (ci := 4) (v := .ref (A 10)) (C := RX4) (T := TX4) (N := 8) hx hb hts hw4 hown hK hP 0 cX_at0 rfl 1 (by decide) k16 (fun _ h9 => h9) rfl dX4_gainOf_56 ?_
        refine lv_iload_n hx hb dX4_gainOf_59 rfl (lv_at hl 4 rfl) ?_
        obtain ⟨a_50, ha_50, hf⟩ := bd_e hf
        refine Ct.callV (As := [.int p3]) (rest := []) (st1 := [.int a_50]) (c_X0_canTell l D cI (fun j => A (10 + j)) a_43.2 p3 a_50 ha_50) hx hb hml hown hts (cwV 1 hts gX4_gainOf_X0_canTell rfl rfl rfl hd_X0_canTell ⟨Nat.le_of_ble_eq_true rfl, Nat.le_of_ble_eq_true rfl⟩) (va_recv hK hP (ci := 0) (q0 := 10) rfl cX_at10) ln_X_H_t hA hK hP hD hS rfl hl.1 rfl rfl (Nat.le_of_ble_eq_true rfl) dX4_gainOf_60 (fun H locs hP hD hS => ?_)
        refine lv_if_eq (tgt := 70) hx hb dX4_gainOf_63 (by decide) (fun c_51 => ?_) (fun c_51 => ?_)
        · replace hf := if_t c_51 hf
          refine lv_iconst (v := 0) hx hb dX4_gainOf_70 (by decide) ?_
          refine lv_istore (lv' := [(7, .int (0 : Int32)), (6, .int (1 : Int32)), (0, .ref (A 0)), (1, .int p1), (2, .int p2), (3, .int p3), (4, .int p4), (5, .int p5)]) hx hb dX4_gainOf_71 hl (by decide) rfl (fun ls hl => ?_)
          refine lv_iload hx hb dX4_gainOf_73 (lv_at hl 0 rfl) ?_
          refine lv_if_eq (tgt := 87) hx hb dX4_gainOf_75 (by decide) (fun _ => ?_) (fun c0 => absurd c0 (by decide))
          refine lv_aload_n hx hb dX4_gainOf_87 rfl (lv_at hl 2 rfl) ?_
          refine va_get (D := D) (ci := 4) (v := .ref (A 10)) (C := RX4) (T := TX4) (N := 8) hx hb hts hw4 hown hK hP 0 cX_at0 rfl 1 (by decide) k16 (fun _ h9 => h9) rfl dX4_gainOf_88 ?_
          refine lv_aload_n hx hb dX4_gainOf_91 rfl (lv_at hl 2 rfl) ?_
          refine va_get (D := D) (ci := 4) (v := .ref (A 10)) (C := RX4) (T := TX4) (N := 8) hx hb hts hw4 hown hK hP 0 cX_at0 rfl 1 (by decide) k16 (fun _ h9 => h9) rfl dX4_gainOf_92 ?_
          refine va_get (D := D) (ci := 0) (v := .ref (A 17)) (C := RX0) (T := TX0) (N := 12) hx hb hts hw0 hown hK hP 10 cX_at10 rfl 8 (by decide) k86 (fun _ h9 => h9) rfl dX4_gainOf_95 ?_
          refine lv_iload_n hx hb dX4_gainOf_98 rfl (lv_at hl 3 rfl) ?_
          obtain ⟨c_52, hf⟩ := gi_e hf
          refine va_iald hx hb hK hP 17 0 cX_at17 rfl c_52 dX4_gainOf_99 ?_
          obtain ⟨a_53, ha_53, hf⟩ := bd_e hf
          refine Ct.callV (As := [.int (a_43.2 7 (p1).toNatClampNeg)]) (rest := []) (st1 := [.int a_53]) (c_X0_isIn l D cI (fun j => A (10 + j)) a_43.2 (a_43.2 7 (p1).toNatClampNeg) a_53 ha_53) hx hb hml hown hts (cwV 1 hts gX4_gainOf_X0_isIn rfl rfl rfl hd_X0_isIn ⟨Nat.le_of_ble_eq_true rfl, Nat.le_of_ble_eq_true rfl⟩) (va_recv hK hP (ci := 0) (q0 := 10) rfl cX_at10) ln_X_H_t hA hK hP hD hS rfl hl.1 rfl rfl (Nat.le_of_ble_eq_true rfl) dX4_gainOf_100 (fun H locs hP hD hS => ?_)
          refine lv_if_eq (tgt := 110) hx hb dX4_gainOf_103 (by decide) (fun c_54 => ?_) (fun c_54 => ?_)
          · replace hf := if_t c_54 hf
            refine lv_iconst (v := 3) hx hb dX4_gainOf_110 (by decide) ?_
            refine lv_istore (lv' := [(8, .int (3 : Int32)), (7, .int (0 : Int32)), (6, .int (1 : Int32)), (0, .ref (A 0)), (1, .int p1), (2, .int p2), (3, .int p3), (4, .int p4), (5, .int p5)]) hx hb dX4_gainOf_111 hl (by decide) rfl (fun ls hl => ?_)
            refine lv_iload_n hx hb dX4_gainOf_113 rfl (lv_at hl 4 rfl) ?_
            refine lv_iload_n hx hb dX4_gainOf_114 rfl (lv_at hl 5 rfl) ?_
            refine lv_icmp_ne (tgt := 123) hx hb dX4_gainOf_115 (by decide) (fun c_55 => ?_) (fun c_55 => ?_)
            · replace hf := if_f c_55 hf
              refine lv_iload hx hb dX4_gainOf_123 (lv_at hl 1 rfl) ?_
              refine lv_istore (lv' := [(9, .int (0 : Int32)), (8, .int (3 : Int32)), (7, .int (0 : Int32)), (6, .int (1 : Int32)), (0, .ref (A 0)), (1, .int p1), (2, .int p2), (3, .int p3), (4, .int p4), (5, .int p5)]) hx hb dX4_gainOf_125 hl (by decide) rfl (fun ls hl => ?_)
              refine lv_iload hx hb dX4_gainOf_127 (lv_at hl 0 rfl) ?_
              refine lv_if_eq (tgt := 139) hx hb dX4_gainOf_129 (by decide) (fun _ => ?_) (fun c0 => absurd c0 (by decide))
              refine lv_iload hx hb dX4_gainOf_139 (lv_at hl 1 rfl) ?_
              exact hend ((3 : Int32), a_43.2) H locs _ _ hf hP hS dX4_gainOf_141
            · replace hf := if_t c_55 hf
              refine lv_iload hx hb dX4_gainOf_118 (lv_at hl 2 rfl) ?_
              refine lv_goto (tgt := 125) hx hb dX4_gainOf_120 (by decide) ?_
              refine lv_istore (lv' := [(9, .int (1 : Int32)), (8, .int (3 : Int32)), (7, .int (0 : Int32)), (6, .int (1 : Int32)), (0, .ref (A 0)), (1, .int p1), (2, .int p2), (3, .int p3), (4, .int p4), (5, .int p5)]) hx hb dX4_gainOf_125 hl (by decide) rfl (fun ls hl => ?_)
              refine lv_iload hx hb dX4_gainOf_127 (lv_at hl 0 rfl) ?_
              refine lv_if_eq (tgt := 139) hx hb dX4_gainOf_129 (by decide) (fun c0 => absurd c0 (by decide)) (fun _ => ?_)
              refine lv_iload hx hb dX4_gainOf_132 (lv_at hl 1 rfl) ?_
              refine lv_iconst (v := 1) hx hb dX4_gainOf_134 (by decide) ?_
              refine lv_isub hx hb dX4_gainOf_135 ?_
              refine lv_goto (tgt := 141) hx hb dX4_gainOf_136 (by decide) ?_
              exact hend (((3 : Int32) - (1 : Int32)), a_43.2) H locs _ _ hf hP hS dX4_gainOf_141
          · replace hf := if_f c_54 hf
            refine lv_iconst (v := 0) hx hb dX4_gainOf_106 (by decide) ?_
            refine lv_goto (tgt := 111) hx hb dX4_gainOf_107 (by decide) ?_
            refine lv_istore (lv' := [(8, .int (0 : Int32)), (7, .int (0 : Int32)), (6, .int (1 : Int32)), (0, .ref (A 0)), (1, .int p1), (2, .int p2), (3, .int p3), (4, .int p4), (5, .int p5)]) hx hb dX4_gainOf_111 hl (by decide) rfl (fun ls hl => ?_)
            refine lv_iload_n hx hb dX4_gainOf_113 rfl (lv_at hl 4 rfl) ?_
            refine lv_iload_n hx hb dX4_gainOf_114 rfl (lv_at hl 5 rfl) ?_
            refine lv_icmp_ne (tgt := 123) hx hb dX4_gainOf_115 (by decide) (fun c_56 => ?_) (fun c_56 => ?_)
            · replace hf := if_f c_56 hf
              refine lv_iload hx hb dX4_gainOf_123 (lv_at hl 1 rfl) ?_
              refine lv_istore (lv' := [(9, .int (0 : Int32)), (8, .int (0 : Int32)), (7, .int (0 : Int32)), (6, .int (1 : Int32)), (0, .ref (A 0)), (1, .int p1), (2, .int p2), (3, .int p3), (4, .int p4), (5, .int p5)]) hx hb dX4_gainOf_125 hl (by decide) rfl (fun ls hl => ?_)
              refine lv_iload hx hb dX4_gainOf_127 (lv_at hl 0 rfl) ?_
              refine lv_if_eq (tgt := 139) hx hb dX4_gainOf_129 (by decide) (fun _ => ?_) (fun c0 => absurd c0 (by decide))
              refine lv_iload hx hb dX4_gainOf_139 (lv_at hl 1 rfl) ?_
              exact hend ((0 : Int32), a_43.2) H locs _ _ hf hP hS dX4_gainOf_141
            · replace hf := if_t c_56 hf
              refine lv_iload hx hb dX4_gainOf_118 (lv_at hl 2 rfl) ?_
              refine lv_goto (tgt := 125) hx hb dX4_gainOf_120 (by decide) ?_
              refine lv_istore (lv' := [(9, .int (1 : Int32)), (8, .int (0 : Int32)), (7, .int (0 : Int32)), (6, .int (1 : Int32)), (0, .ref (A 0)), (1, .int p1), (2, .int p2), (3, .int p3), (4, .int p4), (5, .int p5)]) hx hb dX4_gainOf_125 hl (by decide) rfl (fun ls hl => ?_)
              refine lv_iload hx hb dX4_gainOf_127 (lv_at hl 0 rfl) ?_
              refine lv_if_eq (tgt := 139) hx hb dX4_gainOf_129 (by decide) (fun c0 => absurd c0 (by decide)) (fun _ => ?_)
              refine lv_iload hx hb dX4_gainOf_132 (lv_at hl 1 rfl) ?_
              refine lv_iconst (v := 1) hx hb dX4_gainOf_134 (by decide) ?_
              refine lv_isub hx hb dX4_gainOf_135 ?_
              refine lv_goto (tgt := 141) hx hb dX4_gainOf_136 (by decide) ?_
              exact hend (((0 : Int32) - (1 : Int32)), a_43.2) H locs _ _ hf hP hS dX4_gainOf_141
        · replace hf := if_f c_51 hf
          refine lv_iconst (v := 1) hx hb dX4_gainOf_66 (by decide) ?_
          refine lv_goto (tgt := 71) hx hb dX4_gainOf_67 (by decide) ?_
          refine lv_istore (lv' := [(7, .int (1 : Int32)), (6, .int (1 : Int32)), (0, .ref (A 0)), (1, .int p1), (2, .int p2), (3, .int p3), (4, .int p4), (5, .int p5)]) hx hb dX4_gainOf_71 hl (by decide) rfl (fun ls hl => ?_)
          refine lv_iload hx hb dX4_gainOf_73 (lv_at hl 0 rfl) ?_
          refine lv_if_eq (tgt := 87) hx hb dX4_gainOf_75 (by decide) (fun c0 => absurd c0 (by decide)) (fun _ => ?_)
          refine lv_aload_n hx hb dX4_gainOf_78 rfl (lv_at hl 2 rfl) ?_
          refine va_get (D := D) (ci := 4) (v := .ref (A 10)) (C := RX4) (T := TX4) (N := 8) hx hb hts hw4 hown hK hP 0 cX_at0 rfl 1 (by decide) k16 (fun _ h9 => h9) rfl dX4_gainOf_79 ?_
          refine lv_iload_n hx hb dX4_gainOf_82 rfl (lv_at hl 5 rfl) ?_
          obtain ⟨a_57, ha_57, hf⟩ := bd_e hf
          refine Ct.callV (As := [.int p3]) (rest := []) (st1 := [.int a_57.1]) (c_X0_word l D cI (fun j => A (10 + j)) a_43.2 p3 a_57 ha_57) hx hb hml hown hts (cwV 1 hts gX4_gainOf_X0_word rfl rfl rfl hd_X0_word ⟨Nat.le_of_ble_eq_true rfl, Nat.le_of_ble_eq_true rfl⟩) (va_recv hK hP (ci := 0) (q0 := 10) rfl cX_at10) ln_X_H_t hA hK hP hD hS rfl hl.1 rfl rfl (Nat.le_of_ble_eq_true rfl) dX4_gainOf_83 (fun H locs hP hD hS => ?_)
          replace hP : va_P D vwCl (cX cI A n a_57.2 k g w z q) H := hP
          replace hD : va_D AA (cX cI A n a_57.2 k g w z q) := hD
          refine lv_pop hx hb dX4_gainOf_86 rfl ?_
          refine lv_aload_n hx hb dX4_gainOf_87 rfl (lv_at hl 2 rfl) ?_
          refine va_get (D := D) (ci := 4) (v := .ref (A 10)) (C := RX4) (T := TX4) (N := 8) hx hb hts hw4 hown hK hP 0 cX_at0 rfl 1 (by decide) k16 (fun _ h9 => h9) rfl dX4_gainOf_88 ?_
          refine lv_aload_n hx hb dX4_gainOf_91 rfl (lv_at hl 2 rfl) ?_
          refine va_get (D := D) (ci := 4) (v := .ref (A 10)) (C := RX4) (T := TX4) (N := 8) hx hb hts hw4 hown hK hP 0 cX_at0 rfl 1 (by decide) k16 (fun _ h9 => h9) rfl dX4_gainOf_92 ?_
          refine va_get (D := D) (ci := 0) (v := .ref (A 17)) (C := RX0) (T := TX0) (N := 12) hx hb hts hw0 hown hK hP 10 cX_at10 rfl 8 (by decide) k86 (fun _ h9 => h9) rfl dX4_gainOf_95 ?_
          refine lv_iload_n hx hb dX4_gainOf_98 rfl (lv_at hl 3 rfl) ?_
          obtain ⟨c_58, hf⟩ := gi_e hf
          refine va_iald hx hb hK hP 17 0 cX_at17 rfl c_58 dX4_gainOf_99 ?_
          obtain ⟨a_59, ha_59, hf⟩ := bd_e hf
          refine Ct.callV (As := [.int (a_57.2 7 (p1).toNatClampNeg)]) (rest := []) (st1 := [.int a_59]) (c_X0_isIn l D cI (fun j => A (10 + j)) a_57.2 (a_57.2 7 (p1).toNatClampNeg) a_59 ha_59) hx hb hml hown hts (cwV 1 hts gX4_gainOf_X0_isIn rfl rfl rfl hd_X0_isIn ⟨Nat.le_of_ble_eq_true rfl, Nat.le_of_ble_eq_true rfl⟩) (va_recv hK hP (ci := 0) (q0 := 10) rfl cX_at10) ln_X_H_t hA hK hP hD hS rfl hl.1 rfl rfl (Nat.le_of_ble_eq_true rfl) dX4_gainOf_100 (fun H locs hP hD hS => ?_)
          refine lv_if_eq (tgt := 110) hx hb dX4_gainOf_103 (by decide) (fun c_60 => ?_) (fun c_60 => ?_)
          · replace hf := if_t c_60 hf
            refine lv_iconst (v := 3) hx hb dX4_gainOf_110 (by decide) ?_
            refine lv_istore (lv' := [(8, .int (3 : Int32)), (7, .int (1 : Int32)), (6, .int (1 : Int32)), (0, .ref (A 0)), (1, .int p1), (2, .int p2), (3, .int p3), (4, .int p4), (5, .int p5)]) hx hb dX4_gainOf_111 hl (by decide) rfl (fun ls hl => ?_)
            refine lv_iload_n hx hb dX4_gainOf_113 rfl (lv_at hl 4 rfl) ?_
            refine lv_iload_n hx hb dX4_gainOf_114 rfl (lv_at hl 5 rfl) ?_
            refine lv_icmp_ne (tgt := 123) hx hb dX4_gainOf_115 (by decide) (fun c_61 => ?_) (fun c_61 => ?_)
            · replace hf := if_f c_61 hf
              refine lv_iload hx hb dX4_gainOf_123 (lv_at hl 1 rfl) ?_
              refine lv_istore (lv' := [(9, .int (1 : Int32)), (8, .int (3 : Int32)), (7, .int (1 : Int32)), (6, .int (1 : Int32)), (0, .ref (A 0)), (1, .int p1), (2, .int p2), (3, .int p3), (4, .int p4), (5, .int p5)]) hx hb dX4_gainOf_125 hl (by decide) rfl (fun ls hl => ?_)
              refine lv_iload hx hb dX4_gainOf_127 (lv_at hl 0 rfl) ?_
              refine lv_if_eq (tgt := 139) hx hb dX4_gainOf_129 (by decide) (fun c0 => absurd c0 (by decide)) (fun _ => ?_)
              refine lv_iload hx hb dX4_gainOf_132 (lv_at hl 1 rfl) ?_
              refine lv_iconst (v := 1) hx hb dX4_gainOf_134 (by decide) ?_
              refine lv_isub hx hb dX4_gainOf_135 ?_
              refine lv_goto (tgt := 141) hx hb dX4_gainOf_136 (by decide) ?_
              exact hend (((3 : Int32) - (1 : Int32)), a_57.2) H locs _ _ hf hP hS dX4_gainOf_141
            · replace hf := if_t c_61 hf
              refine lv_iload hx hb dX4_gainOf_118 (lv_at hl 2 rfl) ?_
              refine lv_goto (tgt := 125) hx hb dX4_gainOf_120 (by decide) ?_
              refine lv_istore (lv' := [(9, .int (1 : Int32)), (8, .int (3 : Int32)), (7, .int (1 : Int32)), (6, .int (1 : Int32)), (0, .ref (A 0)), (1, .int p1), (2, .int p2), (3, .int p3), (4, .int p4), (5, .int p5)]) hx hb dX4_gainOf_125 hl (by decide) rfl (fun ls hl => ?_)
              refine lv_iload hx hb dX4_gainOf_127 (lv_at hl 0 rfl) ?_
              refine lv_if_eq (tgt := 139) hx hb dX4_gainOf_129 (by decide) (fun c0 => absurd c0 (by decide)) (fun _ => ?_)
              refine lv_iload hx hb dX4_gainOf_132 (lv_at hl 1 rfl) ?_
              refine lv_iconst (v := 1) hx hb dX4_gainOf_134 (by decide) ?_
              refine lv_isub hx hb dX4_gainOf_135 ?_
              refine lv_goto (tgt := 141) hx hb dX4_gainOf_136 (by decide) ?_
              exact hend (((3 : Int32) - (1 : Int32)), a_57.2) H locs _ _ hf hP hS dX4_gainOf_141
          · replace hf := if_f c_60 hf
            refine lv_iconst (v := 0) hx hb dX4_gainOf_106 (by decide) ?_
            refine lv_goto (tgt := 111) hx hb dX4_gainOf_107 (by decide) ?_
            refine lv_istore (lv' := [(8, .int (0 : Int32)), (7, .int (1 : Int32)), (6, .int (1 : Int32)), (0, .ref (A 0)), (1, .int p1), (2, .int p2), (3, .int p3), (4, .int p4), (5, .int p5)]) hx hb dX4_gainOf_111 hl (by decide) rfl (fun ls hl => ?_)
            refine lv_iload_n hx hb dX4_gainOf_113 rfl (lv_at hl 4 rfl) ?_
            refine lv_iload_n hx hb dX4_gainOf_114 rfl (lv_at hl 5 rfl) ?_
            refine lv_icmp_ne (tgt := 123) hx hb dX4_gainOf_115 (by decide) (fun c_62 => ?_) (fun c_62 => ?_)
            · replace hf := if_f c_62 hf
              refine lv_iload hx hb dX4_gainOf_123 (lv_at hl 1 rfl) ?_
              refine lv_istore (lv' := [(9, .int (1 : Int32)), (8, .int (0 : Int32)), (7, .int (1 : Int32)), (6, .int (1 : Int32)), (0, .ref (A 0)), (1, .int p1), (2, .int p2), (3, .int p3), (4, .int p4), (5, .int p5)]) hx hb dX4_gainOf_125 hl (by decide) rfl (fun ls hl => ?_)
              refine lv_iload hx hb dX4_gainOf_127 (lv_at hl 0 rfl) ?_
              refine lv_if_eq (tgt := 139) hx hb dX4_gainOf_129 (by decide) (fun c0 => absurd c0 (by decide)) (fun _ => ?_)
              refine lv_iload hx hb dX4_gainOf_132 (lv_at hl 1 rfl) ?_
              refine lv_iconst (v := 1) hx hb dX4_gainOf_134 (by decide) ?_
              refine lv_isub hx hb dX4_gainOf_135 ?_
              refine lv_goto (tgt := 141) hx hb dX4_gainOf_136 (by decide) ?_
              exact hend (((0 : Int32) - (1 : Int32)), a_57.2) H locs _ _ hf hP hS dX4_gainOf_141
            · replace hf := if_t c_62 hf
              refine lv_iload hx hb dX4_gainOf_118 (lv_at hl 2 rfl) ?_
              refine lv_goto (tgt := 125) hx hb dX4_gainOf_120 (by decide) ?_
              refine lv_istore (lv' := [(9, .int (1 : Int32)), (8, .int (0 : Int32)), (7, .int (1 : Int32)), (6, .int (1 : Int32)), (0, .ref (A 0)), (1, .int p1), (2, .int p2), (3, .int p3), (4, .int p4), (5, .int p5)]) hx hb dX4_gainOf_125 hl (by decide) rfl (fun ls hl => ?_)
              refine lv_iload hx hb dX4_gainOf_127 (lv_at hl 0 rfl) ?_
              refine lv_if_eq (tgt := 139) hx hb dX4_gainOf_129 (by decide) (fun c0 => absurd c0 (by decide)) (fun _ => ?_)
              refine lv_iload hx hb dX4_gainOf_132 (lv_at hl 1 rfl) ?_
              refine lv_iconst (v := 1) hx hb dX4_gainOf_134 (by decide) ?_
              refine lv_isub hx hb dX4_gainOf_135 ?_
              refine lv_goto (tgt := 141) hx hb dX4_gainOf_136 (by decide) ?_
              exact hend (((0 : Int32) - (1 : Int32)), a_57.2) H locs _ _ hf hP hS dX4_gainOf_141

def f_X4_isSettled (n : St) (t : St) (k : St) (g : St) (w : St) (z : St) (q : St) (p1 : Int32) (p2 : Int32) (p3 : Int32) (p4 : Int32) : Option (Int32 × St) := fzp (bd (f_X4_gainOf n t k g w z q p1 p1 p2 p3 p4) fun a_1 => (bd (f_X4_gainOf n a_1.2 k g w z q p1 p1 p2 ((1 : Int32) - p3) p4) fun a_2 => (if a_1.1 < a_2.1 then (some ((0 : Int32), a_2.2)) else (bd (f_X4_gainOf n a_2.2 k g w z q p2 p1 p2 p3 p4) fun a_4 => (bd (f_X4_gainOf n a_4.2 k g w z q p2 p1 p2 p3 ((1 : Int32) - p4)) fun a_5 => (if a_4.1 < a_5.1 then (some ((0 : Int32), a_5.2)) else (some ((1 : Int32), a_5.2))))))))
def rm_X4_isSettled : Room := { frames := 5, cells := 0, slots := 0, locals := 118 }
theorem hd_X4_isSettled : yX4_isSettled.cls = RX4 ∧ yX4_isSettled.cls ≠ "java/lang/invoke/MethodHandle" ∧ yX4_isSettled.cls ≠ "java/lang/invoke/VarHandle" ∧ (parseMethodDescriptor yX4_isSettled.desc).map (fun d => d.parameters.length) = some 4 := by decide +kernel
set_option maxRecDepth 100000 in
set_option maxHeartbeats 4000000 in
theorem c_X4_isSettled (l : Launch) (D : va_G) (cI : ClassId) (A : Nat → Nat) (n : St) (t : St) (k : St) (g : St) (w : St) (z : St) (q : St) (p1 : Int32) (p2 : Int32) (p3 : Int32) (p4 : Int32) (r : Int32 × St) (hf : f_X4_isSettled n t k g w z q p1 p2 p3 p4 = some r) : Ct l yX4_isSettled wsX4_isSettled rm_X4_isSettled D cI (cX cI A n t k g w z q) (cX cI A n r.2 k g w z q) [.ref (A 0), .int p1, .int p2, .int p3, .int p4] (some (.int r.1)) := by
  unfold f_X4_isSettled at hf
  obtain ⟨hz, hf⟩ := fzp_e hf
  refine Ct.ofZ hz (cc := cX4_isSettled) (maxL := 5) (by decide +kernel) rfl (Nat.le_of_ble_eq_true rfl) ?_
  intro p e s m args below meth c AA Q H locs ls hx hb hml hown hts hA hK hP hD hS hl hend0
  have hend : ∀ (r1 : Int32 × St) (H : Heap) (locs : List Loc) (pc : Nat) (ls : Array Slot), some r1 = some r → va_P D vwCl (cX cI A n r1.2 k g w z q) H → va_S AA s.heap H locs → decode cX4_isSettled pc = .ok (.ireturn, 1) → W p l e rm_X4_isSettled s m args below meth c H locs 0 0 Q (F0 m pc ls [.int r1.1]) := by
    intro r1 H locs pc ls e1 hP hS hd; cases e1; exact hend0 H locs pc ls hP hS hd
  clear hend0
  replace hl : lv_has ls 5 [(0, .ref (A 0)), (1, .int p1), (2, .int p2), (3, .int p3), (4, .int p4)] := hl
  refine lv_aload_n hx hb dX4_isSettled_0 rfl (lv_at hl 0 rfl) ?_
  refine lv_iload_n hx hb dX4_isSettled_1 rfl (lv_at hl 1 rfl) ?_
  refine lv_iload_n hx hb dX4_isSettled_2 rfl (lv_at hl 1 rfl) ?_
  refine lv_iload_n hx hb dX4_isSettled_3 rfl (lv_at hl 2 rfl) ?_
  refine lv_iload_n hx hb dX4_isSettled_4 rfl (lv_at hl 3 rfl) ?_
  refine lv_iload hx hb dX4_isSettled_5 (lv_at hl 4 rfl) ?_
  obtain ⟨a_1, ha_1, hf⟩ := bd_e hf
  refine Ct.callV (As := [.int p1, .int p1, .int p2, .int p3, .int p4]) (rest := []) (st1 := [.int a_1.1]) (c_X4_gainOf l D cI A n t k g w z q p1 p1 p2 p3 p4 a_1 ha_1) hx hb hml hown hts (cwV 5 hts gX4_isSettled_X4_gainOf rfl rfl rfl hd_X4_gainOf ⟨Nat.le_of_ble_eq_true rfl, Nat.le_of_ble_eq_true rfl⟩) (va_recv hK hP (ci := 4) (q0 := 0) rfl cX_at0) (Ln.id rfl) hA hK hP hD hS rfl hl.1 rfl rfl (Nat.le_of_ble_eq_true rfl) dX4_isSettled_7 (fun H locs hP hD hS => ?_)
  replace hP : va_P D vwCl (cX cI A n a_1.2 k g w z q) H := hP
  replace hD : va_D AA (cX cI A n a_1.2 k g w z q) := hD
  refine lv_aload_n hx hb dX4_isSettled_10 rfl (lv_at hl 0 rfl) ?_
  refine lv_iload_n hx hb dX4_isSettled_11 rfl (lv_at hl 1 rfl) ?_
  refine lv_iload_n hx hb dX4_isSettled_12 rfl (lv_at hl 1 rfl) ?_
  refine lv_iload_n hx hb dX4_isSettled_13 rfl (lv_at hl 2 rfl) ?_
  refine lv_iconst (v := 1) hx hb dX4_isSettled_14 (by decide) ?_
  refine lv_iload_n hx hb dX4_isSettled_15 rfl (lv_at hl 3 rfl) ?_
  refine lv_isub hx hb dX4_isSettled_16 ?_
  refine lv_iload hx hb dX4_isSettled_17 (lv_at hl 4 rfl) ?_
  obtain ⟨a_2, ha_2, hf⟩ := bd_e hf
  refine Ct.callV (As := [.int p1, .int p1, .int p2, .int ((1 : Int32) - p3), .int p4]) (rest := [.int a_1.1]) (st1 := [.int a_2.1, .int a_1.1]) (c_X4_gainOf l D cI A n a_1.2 k g w z q p1 p1 p2 ((1 : Int32) - p3) p4 a_2 ha_2) hx hb hml hown hts (cwV 5 hts gX4_isSettled_X4_gainOf rfl rfl rfl hd_X4_gainOf ⟨Nat.le_of_ble_eq_true rfl, Nat.le_of_ble_eq_true rfl⟩) (va_recv hK hP (ci := 4) (q0 := 0) rfl cX_at0) (Ln.id rfl) hA hK hP hD hS rfl hl.1 rfl rfl (Nat.le_of_ble_eq_true rfl) dX4_isSettled_19 (fun H locs hP hD hS => ?_)
  replace hP : va_P D vwCl (cX cI A n a_2.2 k g w z q) H := hP
  replace hD : va_D AA (cX cI A n a_2.2 k g w z q) := hD
  refine lv_icmp_lt (tgt := 54) hx hb dX4_isSettled_22 (by decide) (fun c_3 => ?_) (fun c_3 => ?_)
  · replace hf := if_t c_3 hf
    refine lv_iconst (v := 0) hx hb dX4_isSettled_54 (by decide) ?_
    exact hend ((0 : Int32), a_2.2) H locs _ _ hf hP hS dX4_isSettled_55
  · replace hf := if_f c_3 hf
    refine lv_aload_n hx hb dX4_isSettled_25 rfl (lv_at hl 0 rfl) ?_
    refine lv_iload_n hx hb dX4_isSettled_26 rfl (lv_at hl 2 rfl) ?_
    refine lv_iload_n hx hb dX4_isSettled_27 rfl (lv_at hl 1 rfl) ?_
    refine lv_iload_n hx hb dX4_isSettled_28 rfl (lv_at hl 2 rfl) ?_
    refine lv_iload_n hx hb dX4_isSettled_29 rfl (lv_at hl 3 rfl) ?_
    refine lv_iload hx hb dX4_isSettled_30 (lv_at hl 4 rfl) ?_
    obtain ⟨a_4, ha_4, hf⟩ := bd_e hf
    refine Ct.callV (As := [.int p2, .int p1, .int p2, .int p3, .int p4]) (rest := []) (st1 := [.int a_4.1]) (c_X4_gainOf l D cI A n a_2.2 k g w z q p2 p1 p2 p3 p4 a_4 ha_4) hx hb hml hown hts (cwV 5 hts gX4_isSettled_X4_gainOf rfl rfl rfl hd_X4_gainOf ⟨Nat.le_of_ble_eq_true rfl, Nat.le_of_ble_eq_true rfl⟩) (va_recv hK hP (ci := 4) (q0 := 0) rfl cX_at0) (Ln.id rfl) hA hK hP hD hS rfl hl.1 rfl rfl (Nat.le_of_ble_eq_true rfl) dX4_isSettled_32 (fun H locs hP hD hS => ?_)
    replace hP : va_P D vwCl (cX cI A n a_4.2 k g w z q) H := hP
    replace hD : va_D AA (cX cI A n a_4.2 k g w z q) := hD
    refine lv_aload_n hx hb dX4_isSettled_35 rfl (lv_at hl 0 rfl) ?_
    refine lv_iload_n hx hb dX4_isSettled_36 rfl (lv_at hl 2 rfl) ?_
    refine lv_iload_n hx hb dX4_isSettled_37 rfl (lv_at hl 1 rfl) ?_
    refine lv_iload_n hx hb dX4_isSettled_38 rfl (lv_at hl 2 rfl) ?_
    refine lv_iload_n hx hb dX4_isSettled_39 rfl (lv_at hl 3 rfl) ?_
    refine lv_iconst (v := 1) hx hb dX4_isSettled_40 (by decide) ?_
    refine lv_iload hx hb dX4_isSettled_41 (lv_at hl 4 rfl) ?_
    refine lv_isub hx hb dX4_isSettled_43 ?_
    obtain ⟨a_5, ha_5, hf⟩ := bd_e hf
    refine Ct.callV (As := [.int p2, .int p1, .int p2, .int p3, .int ((1 : Int32) - p4)]) (rest := [.int a_4.1]) (st1 := [.int a_5.1, .int a_4.1]) (c_X4_gainOf l D cI A n a_4.2 k g w z q p2 p1 p2 p3 ((1 : Int32) - p4) a_5 ha_5) hx hb hml hown hts (cwV 5 hts gX4_isSettled_X4_gainOf rfl rfl rfl hd_X4_gainOf ⟨Nat.le_of_ble_eq_true rfl, Nat.le_of_ble_eq_true rfl⟩) (va_recv hK hP (ci := 4) (q0 := 0) rfl cX_at0) (Ln.id rfl) hA hK hP hD hS rfl hl.1 rfl rfl (Nat.le_of_ble_eq_true rfl) dX4_isSettled_44 (fun H locs hP hD hS => ?_)
    replace hP : va_P D vwCl (cX cI A n a_5.2 k g w z q) H := hP
    replace hD : va_D AA (cX cI A n a_5.2 k g w z q) := hD
    refine lv_icmp_lt (tgt := 54) hx hb dX4_isSettled_47 (by decide) (fun c_6 => ?_) (fun c_6 => ?_)
    · replace hf := if_t c_6 hf
      refine lv_iconst (v := 0) hx hb dX4_isSettled_54 (by decide) ?_
      exact hend ((0 : Int32), a_5.2) H locs _ _ hf hP hS dX4_isSettled_55
    · replace hf := if_f c_6 hf
      refine lv_iconst (v := 1) hx hb dX4_isSettled_50 (by decide) ?_
      refine lv_goto (tgt := 55) hx hb dX4_isSettled_51 (by decide) ?_
      exact hend ((1 : Int32), a_5.2) H locs _ _ hf hP hS dX4_isSettled_55

def f_X4_two (n : St) (t : St) (k : St) (g : St) (w : St) (z : St) (q : St) (p1 : Int32) (p2 : Int32) : Option (Int32 × St × St) := (bd (f_X0_hasMan n p1) fun a_1 => (if a_1 = 0 then (bd (f_X4_refused n t k g w z q (-1 : Int32)) fun a_3 => (some (a_3.1, t, a_3.2))) else (bd (f_X0_hasMan n p2) fun a_4 => (if a_4 = 0 then (bd (f_X4_refused n t k g w z q (-1 : Int32)) fun a_6 => (some (a_6.1, t, a_6.2))) else (if p1 = p2 then (bd (f_X4_refused n t k g w z q (-1 : Int32)) fun a_20 => (some (a_20.1, t, a_20.2))) else (bd (f_X0_canTell n p1) fun a_8 => (if a_8 = 0 then (bd (f_X4_refused n t k g w z q (-3 : Int32)) fun a_10 => (some (a_10.1, t, a_10.2))) else (bd (f_X0_canTell n p2) fun a_11 => (if a_11 = 0 then (bd (f_X4_refused n t k g w z q (-3 : Int32)) fun a_19 => (some (a_19.1, t, a_19.2))) else (lp (fun (nx64 : (Int32 × St) → Option (Int32 × St × St)) (q64 : Int32 × St) => (if (1 : Int32) < q64.1 then (some ((-9 : Int32), q64.2, q)) else (lp (fun (nx72 : (Int32 × St) → Option (Int32 × St × St)) (q72 : Int32 × St) => (if (1 : Int32) < q72.1 then (nm (q64.1 + (1 : Int32)) fun v_15 => (nx64 (v_15, q72.2))) else (bd (f_X4_isSettled n q72.2 k g w z q p1 p2 q64.1 q72.1) fun a_16 => (if a_16.1 = 0 then (nm (q72.1 + (1 : Int32)) fun v_18 => (nx72 (v_18, a_16.2))) else (some ((((10 : Int32) * q64.1) + q72.1), a_16.2, q)))))) 1000 ((0 : Int32), q64.2)))) 1000 ((0 : Int32), t)))))))))))
def rm_X4_two : Room := { frames := 6, cells := 0, slots := 0, locals := 142 }
theorem hd_X4_two : yX4_two.cls = RX4 ∧ yX4_two.cls ≠ "java/lang/invoke/MethodHandle" ∧ yX4_two.cls ≠ "java/lang/invoke/VarHandle" ∧ (parseMethodDescriptor yX4_two.desc).map (fun d => d.parameters.length) = some 2 := by decide +kernel
set_option maxRecDepth 100000 in
set_option maxHeartbeats 4000000 in
theorem c_X4_two (l : Launch) (D : va_G) (cI : ClassId) (A : Nat → Nat) (n : St) (t : St) (k : St) (g : St) (w : St) (z : St) (q : St) (p1 : Int32) (p2 : Int32) (r : Int32 × St × St) (hf : f_X4_two n t k g w z q p1 p2 = some r) : Ct l yX4_two wsX4_two rm_X4_two D cI (cX cI A n t k g w z q) (cX cI A n r.2.1 k g w z r.2.2) [.ref (A 0), .int p1, .int p2] (some (.int r.1)) := by
  unfold f_X4_two at hf
  refine Ct.ofI (cc := cX4_two) (maxL := 5) (by decide +kernel) rfl (Nat.le_of_ble_eq_true rfl) ?_
  intro p e s m args below meth c AA Q H locs ls hx hb hml hown hts hA hK hP hD hS hl hend0
  have hend : ∀ (r1 : Int32 × St × St) (H : Heap) (locs : List Loc) (pc : Nat) (ls : Array Slot), some r1 = some r → va_P D vwCl (cX cI A n r1.2.1 k g w z r1.2.2) H → va_S AA s.heap H locs → decode cX4_two pc = .ok (.ireturn, 1) → W p l e rm_X4_two s m args below meth c H locs 0 0 Q (F0 m pc ls [.int r1.1]) := by
    intro r1 H locs pc ls e1 hP hS hd; cases e1; exact hend0 H locs pc ls hP hS hd
  clear hend0
  have hw4 : ∀ w ∈ wsX40, w ∈ wsX4_two := by decide +kernel
  have k10 := hts (.fieldLink RX4 10 "AnchorsForConfession" "now" "LAnchorsForConfession$Harbour;") (by decide +kernel)
  replace hl : lv_has ls 5 [(0, .ref (A 0)), (1, .int p1), (2, .int p2)] := hl
  refine lv_aload_n hx hb dX4_two_0 rfl (lv_at hl 0 rfl) ?_
  refine va_get (D := D) (ci := 4) (v := .ref (A 1)) (C := RX4) (T := TX4) (N := 8) hx hb hts hw4 hown hK hP 0 cX_at0 rfl 0 (by decide) k10 (fun _ h9 => h9) rfl dX4_two_1 ?_
  refine lv_iload_n hx hb dX4_two_4 rfl (lv_at hl 1 rfl) ?_
  obtain ⟨a_1, ha_1, hf⟩ := bd_e hf
  refine Ct.callV (As := [.int p1]) (rest := []) (st1 := [.int a_1]) (c_X0_hasMan l D cI (fun j => A (1 + j)) n p1 a_1 ha_1) hx hb hml hown hts (cwV 1 hts gX4_two_X0_hasMan rfl rfl rfl hd_X0_hasMan ⟨Nat.le_of_ble_eq_true rfl, Nat.le_of_ble_eq_true rfl⟩) (va_recv hK hP (ci := 0) (q0 := 1) rfl cX_at1) ln_X_H_n hA hK hP hD hS rfl hl.1 rfl rfl (Nat.le_of_ble_eq_true rfl) dX4_two_5 (fun H locs hP hD hS => ?_)
  refine lv_if_eq (tgt := 27) hx hb dX4_two_8 (by decide) (fun c_2 => ?_) (fun c_2 => ?_)
  · replace hf := if_t c_2 hf
    refine lv_aload_n hx hb dX4_two_27 rfl (lv_at hl 0 rfl) ?_
    refine lv_iconst (v := -1) hx hb dX4_two_28 (by decide) ?_
    obtain ⟨a_3, ha_3, hf⟩ := bd_e hf
    refine Ct.callV (As := [.int (-1 : Int32)]) (rest := []) (st1 := [.int a_3.1]) (c_X4_refused l D cI A n t k g w z q (-1 : Int32) a_3 ha_3) hx hb hml hown hts (cwV 1 hts gX4_two_X4_refused rfl rfl rfl hd_X4_refused ⟨Nat.le_of_ble_eq_true rfl, Nat.le_of_ble_eq_true rfl⟩) (va_recv hK hP (ci := 4) (q0 := 0) rfl cX_at0) (Ln.id rfl) hA hK hP hD hS rfl hl.1 rfl rfl (Nat.le_of_ble_eq_true rfl) dX4_two_29 (fun H locs hP hD hS => ?_)
    replace hP : va_P D vwCl (cX cI A n t k g w z a_3.2) H := hP
    replace hD : va_D AA (cX cI A n t k g w z a_3.2) := hD
    exact hend (a_3.1, t, a_3.2) H locs _ _ hf hP hS dX4_two_32
  · replace hf := if_f c_2 hf
    refine lv_aload_n hx hb dX4_two_11 rfl (lv_at hl 0 rfl) ?_
    refine va_get (D := D) (ci := 4) (v := .ref (A 1)) (C := RX4) (T := TX4) (N := 8) hx hb hts hw4 hown hK hP 0 cX_at0 rfl 0 (by decide) k10 (fun _ h9 => h9) rfl dX4_two_12 ?_
    refine lv_iload_n hx hb dX4_two_15 rfl (lv_at hl 2 rfl) ?_
    obtain ⟨a_4, ha_4, hf⟩ := bd_e hf
    refine Ct.callV (As := [.int p2]) (rest := []) (st1 := [.int a_4]) (c_X0_hasMan l D cI (fun j => A (1 + j)) n p2 a_4 ha_4) hx hb hml hown hts (cwV 1 hts gX4_two_X0_hasMan rfl rfl rfl hd_X0_hasMan ⟨Nat.le_of_ble_eq_true rfl, Nat.le_of_ble_eq_true rfl⟩) (va_recv hK hP (ci := 0) (q0 := 1) rfl cX_at1) ln_X_H_n hA hK hP hD hS rfl hl.1 rfl rfl (Nat.le_of_ble_eq_true rfl) dX4_two_16 (fun H locs hP hD hS => ?_)
    refine lv_if_eq (tgt := 27) hx hb dX4_two_19 (by decide) (fun c_5 => ?_) (fun c_5 => ?_)
    · replace hf := if_t c_5 hf
      refine lv_aload_n hx hb dX4_two_27 rfl (lv_at hl 0 rfl) ?_
      refine lv_iconst (v := -1) hx hb dX4_two_28 (by decide) ?_
      obtain ⟨a_6, ha_6, hf⟩ := bd_e hf
      refine Ct.callV (As := [.int (-1 : Int32)]) (rest := []) (st1 := [.int a_6.1]) (c_X4_refused l D cI A n t k g w z q (-1 : Int32) a_6 ha_6) hx hb hml hown hts (cwV 1 hts gX4_two_X4_refused rfl rfl rfl hd_X4_refused ⟨Nat.le_of_ble_eq_true rfl, Nat.le_of_ble_eq_true rfl⟩) (va_recv hK hP (ci := 4) (q0 := 0) rfl cX_at0) (Ln.id rfl) hA hK hP hD hS rfl hl.1 rfl rfl (Nat.le_of_ble_eq_true rfl) dX4_two_29 (fun H locs hP hD hS => ?_)
      replace hP : va_P D vwCl (cX cI A n t k g w z a_6.2) H := hP
      replace hD : va_D AA (cX cI A n t k g w z a_6.2) := hD
      exact hend (a_6.1, t, a_6.2) H locs _ _ hf hP hS dX4_two_32
    · replace hf := if_f c_5 hf
      refine lv_iload_n hx hb dX4_two_22 rfl (lv_at hl 1 rfl) ?_
      refine lv_iload_n hx hb dX4_two_23 rfl (lv_at hl 2 rfl) ?_
      refine lv_icmp_ne (tgt := 33) hx hb dX4_two_24 (by decide) (fun c_7 => ?_) (fun c_7 => ?_)
      · replace hf := if_f c_7 hf
        refine lv_aload_n hx hb dX4_two_33 rfl (lv_at hl 0 rfl) ?_
        refine va_get (D := D) (ci := 4) (v := .ref (A 1)) (C := RX4) (T := TX4) (N := 8) hx hb hts hw4 hown hK hP 0 cX_at0 rfl 0 (by decide) k10 (fun _ h9 => h9) rfl dX4_two_34 ?_
        refine lv_iload_n hx hb dX4_two_37 rfl (lv_at hl 1 rfl) ?_
        obtain ⟨a_8, ha_8, hf⟩ := bd_e hf
        refine Ct.callV (As := [.int p1]) (rest := []) (st1 := [.int a_8]) (c_X0_canTell l D cI (fun j => A (1 + j)) n p1 a_8 ha_8) hx hb hml hown hts (cwV 1 hts gX4_two_X0_canTell rfl rfl rfl hd_X0_canTell ⟨Nat.le_of_ble_eq_true rfl, Nat.le_of_ble_eq_true rfl⟩) (va_recv hK hP (ci := 0) (q0 := 1) rfl cX_at1) ln_X_H_n hA hK hP hD hS rfl hl.1 rfl rfl (Nat.le_of_ble_eq_true rfl) dX4_two_38 (fun H locs hP hD hS => ?_)
        refine lv_if_eq (tgt := 55) hx hb dX4_two_41 (by decide) (fun c_9 => ?_) (fun c_9 => ?_)
        · replace hf := if_t c_9 hf
          refine lv_aload_n hx hb dX4_two_55 rfl (lv_at hl 0 rfl) ?_
          refine lv_bipush (v := -3) hx hb dX4_two_56 (by decide +kernel) ?_
          obtain ⟨a_10, ha_10, hf⟩ := bd_e hf
          refine Ct.callV (As := [.int (-3 : Int32)]) (rest := []) (st1 := [.int a_10.1]) (c_X4_refused l D cI A n t k g w z q (-3 : Int32) a_10 ha_10) hx hb hml hown hts (cwV 1 hts gX4_two_X4_refused rfl rfl rfl hd_X4_refused ⟨Nat.le_of_ble_eq_true rfl, Nat.le_of_ble_eq_true rfl⟩) (va_recv hK hP (ci := 4) (q0 := 0) rfl cX_at0) (Ln.id rfl) hA hK hP hD hS rfl hl.1 rfl rfl (Nat.le_of_ble_eq_true rfl) dX4_two_58 (fun H locs hP hD hS => ?_)
          replace hP : va_P D vwCl (cX cI A n t k g w z a_10.2) H := hP
          replace hD : va_D AA (cX cI A n t k g w z a_10.2) := hD
          exact hend (a_10.1, t, a_10.2) H locs _ _ hf hP hS dX4_two_61
        · replace hf := if_f c_9 hf
          refine lv_aload_n hx hb dX4_two_44 rfl (lv_at hl 0 rfl) ?_
          refine va_get (D := D) (ci := 4) (v := .ref (A 1)) (C := RX4) (T := TX4) (N := 8) hx hb hts hw4 hown hK hP 0 cX_at0 rfl 0 (by decide) k10 (fun _ h9 => h9) rfl dX4_two_45 ?_
          refine lv_iload_n hx hb dX4_two_48 rfl (lv_at hl 2 rfl) ?_
          obtain ⟨a_11, ha_11, hf⟩ := bd_e hf
          refine Ct.callV (As := [.int p2]) (rest := []) (st1 := [.int a_11]) (c_X0_canTell l D cI (fun j => A (1 + j)) n p2 a_11 ha_11) hx hb hml hown hts (cwV 1 hts gX4_two_X0_canTell rfl rfl rfl hd_X0_canTell ⟨Nat.le_of_ble_eq_true rfl, Nat.le_of_ble_eq_true rfl⟩) (va_recv hK hP (ci := 0) (q0 := 1) rfl cX_at1) ln_X_H_n hA hK hP hD hS rfl hl.1 rfl rfl (Nat.le_of_ble_eq_true rfl) dX4_two_49 (fun H locs hP hD hS => ?_)
          refine lv_if_ne (tgt := 62) hx hb dX4_two_52 (by decide) (fun c_12 => ?_) (fun c_12 => ?_)
          · replace hf := if_f c_12 hf
            refine lv_iconst (v := 0) hx hb dX4_two_62 (by decide) ?_
            refine lv_istore_n (lv' := [(3, .int (0 : Int32)), (0, .ref (A 0)), (1, .int p1), (2, .int p2)]) hx hb dX4_two_63 rfl hl (by decide) rfl (fun ls hl => ?_)
            refine lp_ind (P := fun (q64 : Int32 × St) => ∀ (H : Heap) (locs : List Loc) (ls : Array Slot), va_P D vwCl (cX cI A n q64.2 k g w z q) H → va_D AA (cX cI A n q64.2 k g w z q) → va_S AA s.heap H locs → lv_has ls 5 [(0, .ref (A 0)), (1, .int p1), (2, .int p2), (3, .int q64.1)] → W p l e rm_X4_two s m args below meth c H locs 0 0 Q (F0 m 64 ls [])) hf ?_ H locs ls hP hD hS (lv_sub hl [1, 2, 3, 0] rfl)
            clear hf hP hD hS hl
            intro nx64 ih64 q64 hf H locs ls hP hD hS hl
            refine lv_iload_n hx hb dX4_two_64 rfl (lv_at hl 3 rfl) ?_
            refine lv_iconst (v := 1) hx hb dX4_two_65 (by decide) ?_
            refine lv_icmp_gt (tgt := 110) hx hb dX4_two_66 (by decide) (fun c_13 => ?_) (fun c_13 => ?_)
            · replace hf := if_t c_13 hf
              refine lv_bipush (v := -9) hx hb dX4_two_110 (by decide +kernel) ?_
              exact hend ((-9 : Int32), q64.2, q) H locs _ _ hf hP hS dX4_two_112
            · replace hf := if_f c_13 hf
              refine lv_iconst (v := 0) hx hb dX4_two_69 (by decide) ?_
              refine lv_istore (lv' := [(4, .int (0 : Int32)), (0, .ref (A 0)), (1, .int p1), (2, .int p2), (3, .int q64.1)]) hx hb dX4_two_70 hl (by decide) rfl (fun ls hl => ?_)
              refine lp_ind (P := fun (q72 : Int32 × St) => ∀ (H : Heap) (locs : List Loc) (ls : Array Slot), va_P D vwCl (cX cI A n q72.2 k g w z q) H → va_D AA (cX cI A n q72.2 k g w z q) → va_S AA s.heap H locs → lv_has ls 5 [(0, .ref (A 0)), (1, .int p1), (2, .int p2), (3, .int q64.1), (4, .int q72.1)] → W p l e rm_X4_two s m args below meth c H locs 0 0 Q (F0 m 72 ls [])) hf ?_ H locs ls hP hD hS (lv_sub hl [1, 2, 3, 4, 0] rfl)
              clear hf hP hD hS hl
              intro nx72 ih72 q72 hf H locs ls hP hD hS hl
              refine lv_iload hx hb dX4_two_72 (lv_at hl 4 rfl) ?_
              refine lv_iconst (v := 1) hx hb dX4_two_74 (by decide) ?_
              refine lv_icmp_gt (tgt := 104) hx hb dX4_two_75 (by decide) (fun c_14 => ?_) (fun c_14 => ?_)
              · replace hf := if_t c_14 hf
                obtain ⟨v_15, ev_15, hf⟩ := nm_e hf
                refine lv_iinc (v := v_15) (lv' := [(3, .int v_15), (0, .ref (A 0)), (1, .int p1), (2, .int p2), (4, .int q72.1)]) hx hb dX4_two_104 hl (k := 3) rfl (by rw [ev_15]; rfl) (by decide) rfl (fun ls hl => ?_)
                refine lv_goto (tgt := 64) hx hb dX4_two_107 (by decide) ?_
                exact ih64 (v_15, q72.2) hf H locs ls hP hD hS (lv_sub hl [1, 2, 3, 0] rfl)
              · replace hf := if_f c_14 hf
                refine lv_aload_n hx hb dX4_two_78 rfl (lv_at hl 0 rfl) ?_
                refine lv_iload_n hx hb dX4_two_79 rfl (lv_at hl 1 rfl) ?_
                refine lv_iload_n hx hb dX4_two_80 rfl (lv_at hl 2 rfl) ?_
                refine lv_iload_n hx hb dX4_two_81 rfl (lv_at hl 3 rfl) ?_
                refine lv_iload hx hb dX4_two_82 (lv_at hl 4 rfl) ?_
                obtain ⟨a_16, ha_16, hf⟩ := bd_e hf
                refine Ct.callV (As := [.int p1, .int p2, .int q64.1, .int q72.1]) (rest := []) (st1 := [.int a_16.1]) (c_X4_isSettled l D cI A n q72.2 k g w z q p1 p2 q64.1 q72.1 a_16 ha_16) hx hb hml hown hts (cwV 4 hts gX4_two_X4_isSettled rfl rfl rfl hd_X4_isSettled ⟨Nat.le_of_ble_eq_true rfl, Nat.le_of_ble_eq_true rfl⟩) (va_recv hK hP (ci := 4) (q0 := 0) rfl cX_at0) (Ln.id rfl) hA hK hP hD hS rfl hl.1 rfl rfl (Nat.le_of_ble_eq_true rfl) dX4_two_84 (fun H locs hP hD hS => ?_)
                replace hP : va_P D vwCl (cX cI A n a_16.2 k g w z q) H := hP
                replace hD : va_D AA (cX cI A n a_16.2 k g w z q) := hD
                refine lv_if_eq (tgt := 98) hx hb dX4_two_87 (by decide) (fun c_17 => ?_) (fun c_17 => ?_)
                · replace hf := if_t c_17 hf
                  obtain ⟨v_18, ev_18, hf⟩ := nm_e hf
                  refine lv_iinc (v := v_18) (lv' := [(4, .int v_18), (0, .ref (A 0)), (1, .int p1), (2, .int p2), (3, .int q64.1)]) hx hb dX4_two_98 hl (k := 4) rfl (by rw [ev_18]; rfl) (by decide) rfl (fun ls hl => ?_)
                  refine lv_goto (tgt := 72) hx hb dX4_two_101 (by decide) ?_
                  exact ih72 (v_18, a_16.2) hf H locs ls hP hD hS (lv_sub hl [1, 2, 3, 4, 0] rfl)
                · replace hf := if_f c_17 hf
                  refine lv_bipush (v := 10) hx hb dX4_two_90 (by decide +kernel) ?_
                  refine lv_iload_n hx hb dX4_two_92 rfl (lv_at hl 3 rfl) ?_
                  refine lv_imul hx hb dX4_two_93 ?_
                  refine lv_iload hx hb dX4_two_94 (lv_at hl 4 rfl) ?_
                  refine lv_iadd hx hb dX4_two_96 ?_
                  exact hend ((((10 : Int32) * q64.1) + q72.1), a_16.2, q) H locs _ _ hf hP hS dX4_two_97
          · replace hf := if_t c_12 hf
            refine lv_aload_n hx hb dX4_two_55 rfl (lv_at hl 0 rfl) ?_
            refine lv_bipush (v := -3) hx hb dX4_two_56 (by decide +kernel) ?_
            obtain ⟨a_19, ha_19, hf⟩ := bd_e hf
            refine Ct.callV (As := [.int (-3 : Int32)]) (rest := []) (st1 := [.int a_19.1]) (c_X4_refused l D cI A n t k g w z q (-3 : Int32) a_19 ha_19) hx hb hml hown hts (cwV 1 hts gX4_two_X4_refused rfl rfl rfl hd_X4_refused ⟨Nat.le_of_ble_eq_true rfl, Nat.le_of_ble_eq_true rfl⟩) (va_recv hK hP (ci := 4) (q0 := 0) rfl cX_at0) (Ln.id rfl) hA hK hP hD hS rfl hl.1 rfl rfl (Nat.le_of_ble_eq_true rfl) dX4_two_58 (fun H locs hP hD hS => ?_)
            replace hP : va_P D vwCl (cX cI A n t k g w z a_19.2) H := hP
            replace hD : va_D AA (cX cI A n t k g w z a_19.2) := hD
            exact hend (a_19.1, t, a_19.2) H locs _ _ hf hP hS dX4_two_61
      · replace hf := if_t c_7 hf
        refine lv_aload_n hx hb dX4_two_27 rfl (lv_at hl 0 rfl) ?_
        refine lv_iconst (v := -1) hx hb dX4_two_28 (by decide) ?_
        obtain ⟨a_20, ha_20, hf⟩ := bd_e hf
        refine Ct.callV (As := [.int (-1 : Int32)]) (rest := []) (st1 := [.int a_20.1]) (c_X4_refused l D cI A n t k g w z q (-1 : Int32) a_20 ha_20) hx hb hml hown hts (cwV 1 hts gX4_two_X4_refused rfl rfl rfl hd_X4_refused ⟨Nat.le_of_ble_eq_true rfl, Nat.le_of_ble_eq_true rfl⟩) (va_recv hK hP (ci := 4) (q0 := 0) rfl cX_at0) (Ln.id rfl) hA hK hP hD hS rfl hl.1 rfl rfl (Nat.le_of_ble_eq_true rfl) dX4_two_29 (fun H locs hP hD hS => ?_)
        replace hP : va_P D vwCl (cX cI A n t k g w z a_20.2) H := hP
        replace hD : va_D AA (cX cI A n t k g w z a_20.2) := hD
        exact hend (a_20.1, t, a_20.2) H locs _ _ hf hP hS dX4_two_32

def f_X4_isOutBehind (n : St) (t : St) (k : St) (g : St) (w : St) (z : St) (q : St) (p1 : Int32) (p2 : Int32) (p3 : Int32) : Option (Int32 × St) := fzp (bd (f_X0_copyFrom t n) fun a_1 => (lp (fun (nx14 : (Int32 × St) → Option (Int32 × St)) (q14 : Int32 × St) => (if p2 ≤ q14.1 then (bd (f_X0_isIn q14.2 p1) fun a_3 => (if a_3 = 0 then (some ((1 : Int32), q14.2)) else (some ((0 : Int32), q14.2)))) else (if ((p3 >>> (q14.1 &&& 31)) &&& (1 : Int32)) = 0 then (bd (f_X0_passTides q14.2 (1 : Int32)) fun a_6 => (nm (q14.1 + (1 : Int32)) fun v_7 => (nx14 (v_7, a_6)))) else (bd (f_X0_storms q14.2) fun a_8 => (bd (f_X0_passTides a_8 (1 : Int32)) fun a_9 => (nm (q14.1 + (1 : Int32)) fun v_10 => (nx14 (v_10, a_9)))))))) 1000 ((0 : Int32), a_1)))
def rm_X4_isOutBehind : Room := { frames := 4, cells := 0, slots := 0, locals := 85 }
theorem hd_X4_isOutBehind : yX4_isOutBehind.cls = RX4 ∧ yX4_isOutBehind.cls ≠ "java/lang/invoke/MethodHandle" ∧ yX4_isOutBehind.cls ≠ "java/lang/invoke/VarHandle" ∧ (parseMethodDescriptor yX4_isOutBehind.desc).map (fun d => d.parameters.length) = some 3 := by decide +kernel
set_option maxRecDepth 100000 in
set_option maxHeartbeats 4000000 in
theorem c_X4_isOutBehind (l : Launch) (D : va_G) (cI : ClassId) (A : Nat → Nat) (n : St) (t : St) (k : St) (g : St) (w : St) (z : St) (q : St) (p1 : Int32) (p2 : Int32) (p3 : Int32) (r : Int32 × St) (hf : f_X4_isOutBehind n t k g w z q p1 p2 p3 = some r) : Ct l yX4_isOutBehind wsX4_isOutBehind rm_X4_isOutBehind D cI (cX cI A n t k g w z q) (cX cI A n r.2 k g w z q) [.ref (A 0), .int p1, .int p2, .int p3] (some (.int r.1)) := by
  unfold f_X4_isOutBehind at hf
  obtain ⟨hz, hf⟩ := fzp_e hf
  refine Ct.ofZ hz (cc := cX4_isOutBehind) (maxL := 5) (by decide +kernel) rfl (Nat.le_of_ble_eq_true rfl) ?_
  intro p e s m args below meth c AA Q H locs ls hx hb hml hown hts hA hK hP hD hS hl hend0
  have hend : ∀ (r1 : Int32 × St) (H : Heap) (locs : List Loc) (pc : Nat) (ls : Array Slot), some r1 = some r → va_P D vwCl (cX cI A n r1.2 k g w z q) H → va_S AA s.heap H locs → decode cX4_isOutBehind pc = .ok (.ireturn, 1) → W p l e rm_X4_isOutBehind s m args below meth c H locs 0 0 Q (F0 m pc ls [.int r1.1]) := by
    intro r1 H locs pc ls e1 hP hS hd; cases e1; exact hend0 H locs pc ls hP hS hd
  clear hend0
  have hw4 : ∀ w ∈ wsX40, w ∈ wsX4_isOutBehind := by decide +kernel
  have k10 := hts (.fieldLink RX4 10 "AnchorsForConfession" "now" "LAnchorsForConfession$Harbour;") (by decide +kernel)
  have k16 := hts (.fieldLink RX4 16 "AnchorsForConfession" "thought" "LAnchorsForConfession$Harbour;") (by decide +kernel)
  replace hl : lv_has ls 5 [(0, .ref (A 0)), (1, .int p1), (2, .int p2), (3, .int p3)] := hl
  refine lv_aload_n hx hb dX4_isOutBehind_0 rfl (lv_at hl 0 rfl) ?_
  refine va_get (D := D) (ci := 4) (v := .ref (A 10)) (C := RX4) (T := TX4) (N := 8) hx hb hts hw4 hown hK hP 0 cX_at0 rfl 1 (by decide) k16 (fun _ h9 => h9) rfl dX4_isOutBehind_1 ?_
  refine lv_aload_n hx hb dX4_isOutBehind_4 rfl (lv_at hl 0 rfl) ?_
  refine va_get (D := D) (ci := 4) (v := .ref (A 1)) (C := RX4) (T := TX4) (N := 8) hx hb hts hw4 hown hK hP 0 cX_at0 rfl 0 (by decide) k10 (fun _ h9 => h9) rfl dX4_isOutBehind_5 ?_
  obtain ⟨a_1, ha_1, hf⟩ := bd_e hf
  refine Ct.callV (As := [.ref (A 1)]) (rest := []) (st1 := []) (c_X0_copyFrom l D cI (fun j => A (10 + j)) (fun j => A (1 + j)) t n a_1 ha_1) hx hb hml hown hts (cwV 1 hts gX4_isOutBehind_X0_copyFrom rfl rfl rfl hd_X0_copyFrom ⟨Nat.le_of_ble_eq_true rfl, Nat.le_of_ble_eq_true rfl⟩) (va_recv hK hP (ci := 0) (q0 := 10) rfl cX_at10) ln_X_HH_tn hA hK hP hD hS rfl hl.1 rfl rfl (Nat.le_of_ble_eq_true rfl) dX4_isOutBehind_8 (fun H locs hP hD hS => ?_)
  replace hP : va_P D vwCl (cX cI A n a_1 k g w z q) H := hP
  replace hD : va_D AA (cX cI A n a_1 k g w z q) := hD
  refine lv_iconst (v := 0) hx hb dX4_isOutBehind_11 (by decide) ?_
  refine lv_istore (lv' := [(4, .int (0 : Int32)), (0, .ref (A 0)), (1, .int p1), (2, .int p2), (3, .int p3)]) hx hb dX4_isOutBehind_12 hl (by decide) rfl (fun ls hl => ?_)
  refine lp_ind (P := fun (q14 : Int32 × St) => ∀ (H : Heap) (locs : List Loc) (ls : Array Slot), va_P D vwCl (cX cI A n q14.2 k g w z q) H → va_D AA (cX cI A n q14.2 k g w z q) → va_S AA s.heap H locs → lv_has ls 5 [(0, .ref (A 0)), (1, .int p1), (2, .int p2), (3, .int p3), (4, .int q14.1)] → W p l e rm_X4_isOutBehind s m args below meth c H locs 0 0 Q (F0 m 14 ls [])) hf ?_ H locs ls hP hD hS (lv_sub hl [1, 2, 3, 4, 0] rfl)
  clear hf hP hD hS hl
  intro nx14 ih14 q14 hf H locs ls hP hD hS hl
  refine lv_iload hx hb dX4_isOutBehind_14 (lv_at hl 4 rfl) ?_
  refine lv_iload_n hx hb dX4_isOutBehind_16 rfl (lv_at hl 2 rfl) ?_
  refine lv_icmp_ge (tgt := 50) hx hb dX4_isOutBehind_17 (by decide) (fun c_2 => ?_) (fun c_2 => ?_)
  · replace hf := if_t c_2 hf
    refine lv_aload_n hx hb dX4_isOutBehind_50 rfl (lv_at hl 0 rfl) ?_
    refine va_get (D := D) (ci := 4) (v := .ref (A 10)) (C := RX4) (T := TX4) (N := 8) hx hb hts hw4 hown hK hP 0 cX_at0 rfl 1 (by decide) k16 (fun _ h9 => h9) rfl dX4_isOutBehind_51 ?_
    refine lv_iload_n hx hb dX4_isOutBehind_54 rfl (lv_at hl 1 rfl) ?_
    obtain ⟨a_3, ha_3, hf⟩ := bd_e hf
    refine Ct.callV (As := [.int p1]) (rest := []) (st1 := [.int a_3]) (c_X0_isIn l D cI (fun j => A (10 + j)) q14.2 p1 a_3 ha_3) hx hb hml hown hts (cwV 1 hts gX4_isOutBehind_X0_isIn rfl rfl rfl hd_X0_isIn ⟨Nat.le_of_ble_eq_true rfl, Nat.le_of_ble_eq_true rfl⟩) (va_recv hK hP (ci := 0) (q0 := 10) rfl cX_at10) ln_X_H_t hA hK hP hD hS rfl hl.1 rfl rfl (Nat.le_of_ble_eq_true rfl) dX4_isOutBehind_55 (fun H locs hP hD hS => ?_)
    refine lv_if_ne (tgt := 65) hx hb dX4_isOutBehind_58 (by decide) (fun c_4 => ?_) (fun c_4 => ?_)
    · replace hf := if_f c_4 hf
      refine lv_iconst (v := 0) hx hb dX4_isOutBehind_65 (by decide) ?_
      exact hend ((0 : Int32), q14.2) H locs _ _ hf hP hS dX4_isOutBehind_66
    · replace hf := if_t c_4 hf
      refine lv_iconst (v := 1) hx hb dX4_isOutBehind_61 (by decide) ?_
      refine lv_goto (tgt := 66) hx hb dX4_isOutBehind_62 (by decide) ?_
      exact hend ((1 : Int32), q14.2) H locs _ _ hf hP hS dX4_isOutBehind_66
  · replace hf := if_f c_2 hf
    refine lv_iload_n hx hb dX4_isOutBehind_20 rfl (lv_at hl 3 rfl) ?_
    refine lv_iload hx hb dX4_isOutBehind_21 (lv_at hl 4 rfl) ?_
    refine lv_ishr hx hb dX4_isOutBehind_23 ?_
    refine lv_iconst (v := 1) hx hb dX4_isOutBehind_24 (by decide) ?_
    refine lv_iand hx hb dX4_isOutBehind_25 ?_
    refine lv_if_eq (tgt := 36) hx hb dX4_isOutBehind_26 (by decide) (fun c_5 => ?_) (fun c_5 => ?_)
    · replace hf := if_t c_5 hf
      refine lv_aload_n hx hb dX4_isOutBehind_36 rfl (lv_at hl 0 rfl) ?_
      refine va_get (D := D) (ci := 4) (v := .ref (A 10)) (C := RX4) (T := TX4) (N := 8) hx hb hts hw4 hown hK hP 0 cX_at0 rfl 1 (by decide) k16 (fun _ h9 => h9) rfl dX4_isOutBehind_37 ?_
      refine lv_iconst (v := 1) hx hb dX4_isOutBehind_40 (by decide) ?_
      obtain ⟨a_6, ha_6, hf⟩ := bd_e hf
      refine Ct.callV (As := [.int (1 : Int32)]) (rest := []) (st1 := []) (c_X0_passTides l D cI (fun j => A (10 + j)) q14.2 (1 : Int32) a_6 ha_6) hx hb hml hown hts (cwV 1 hts gX4_isOutBehind_X0_passTides rfl rfl rfl hd_X0_passTides ⟨Nat.le_of_ble_eq_true rfl, Nat.le_of_ble_eq_true rfl⟩) (va_recv hK hP (ci := 0) (q0 := 10) rfl cX_at10) ln_X_H_t hA hK hP hD hS rfl hl.1 rfl rfl (Nat.le_of_ble_eq_true rfl) dX4_isOutBehind_41 (fun H locs hP hD hS => ?_)
      replace hP : va_P D vwCl (cX cI A n a_6 k g w z q) H := hP
      replace hD : va_D AA (cX cI A n a_6 k g w z q) := hD
      obtain ⟨v_7, ev_7, hf⟩ := nm_e hf
      refine lv_iinc (v := v_7) (lv' := [(4, .int v_7), (0, .ref (A 0)), (1, .int p1), (2, .int p2), (3, .int p3)]) hx hb dX4_isOutBehind_44 hl (k := 4) rfl (by rw [ev_7]; rfl) (by decide) rfl (fun ls hl => ?_)
      refine lv_goto (tgt := 14) hx hb dX4_isOutBehind_47 (by decide) ?_
      exact ih14 (v_7, a_6) hf H locs ls hP hD hS (lv_sub hl [1, 2, 3, 4, 0] rfl)
    · replace hf := if_f c_5 hf
      refine lv_aload_n hx hb dX4_isOutBehind_29 rfl (lv_at hl 0 rfl) ?_
      refine va_get (D := D) (ci := 4) (v := .ref (A 10)) (C := RX4) (T := TX4) (N := 8) hx hb hts hw4 hown hK hP 0 cX_at0 rfl 1 (by decide) k16 (fun _ h9 => h9) rfl dX4_isOutBehind_30 ?_
      obtain ⟨a_8, ha_8, hf⟩ := bd_e hf
      refine Ct.callV (As := []) (rest := []) (st1 := []) (c_X0_storms l D cI (fun j => A (10 + j)) q14.2 a_8 ha_8) hx hb hml hown hts (cwV 0 hts gX4_isOutBehind_X0_storms rfl rfl rfl hd_X0_storms ⟨Nat.le_of_ble_eq_true rfl, Nat.le_of_ble_eq_true rfl⟩) (va_recv hK hP (ci := 0) (q0 := 10) rfl cX_at10) ln_X_H_t hA hK hP hD hS rfl hl.1 rfl rfl (Nat.le_of_ble_eq_true rfl) dX4_isOutBehind_33 (fun H locs hP hD hS => ?_)
      replace hP : va_P D vwCl (cX cI A n a_8 k g w z q) H := hP
      replace hD : va_D AA (cX cI A n a_8 k g w z q) := hD
      refine lv_aload_n hx hb dX4_isOutBehind_36 rfl (lv_at hl 0 rfl) ?_
      refine va_get (D := D) (ci := 4) (v := .ref (A 10)) (C := RX4) (T := TX4) (N := 8) hx hb hts hw4 hown hK hP 0 cX_at0 rfl 1 (by decide) k16 (fun _ h9 => h9) rfl dX4_isOutBehind_37 ?_
      refine lv_iconst (v := 1) hx hb dX4_isOutBehind_40 (by decide) ?_
      obtain ⟨a_9, ha_9, hf⟩ := bd_e hf
      refine Ct.callV (As := [.int (1 : Int32)]) (rest := []) (st1 := []) (c_X0_passTides l D cI (fun j => A (10 + j)) a_8 (1 : Int32) a_9 ha_9) hx hb hml hown hts (cwV 1 hts gX4_isOutBehind_X0_passTides rfl rfl rfl hd_X0_passTides ⟨Nat.le_of_ble_eq_true rfl, Nat.le_of_ble_eq_true rfl⟩) (va_recv hK hP (ci := 0) (q0 := 10) rfl cX_at10) ln_X_H_t hA hK hP hD hS rfl hl.1 rfl rfl (Nat.le_of_ble_eq_true rfl) dX4_isOutBehind_41 (fun H locs hP hD hS => ?_)
      replace hP : va_P D vwCl (cX cI A n a_9 k g w z q) H := hP
      replace hD : va_D AA (cX cI A n a_9 k g w z q) := hD
      obtain ⟨v_10, ev_10, hf⟩ := nm_e hf
      refine lv_iinc (v := v_10) (lv' := [(4, .int v_10), (0, .ref (A 0)), (1, .int p1), (2, .int p2), (3, .int p3)]) hx hb dX4_isOutBehind_44 hl (k := 4) rfl (by rw [ev_10]; rfl) (by decide) rfl (fun ls hl => ?_)
      refine lv_goto (tgt := 14) hx hb dX4_isOutBehind_47 (by decide) ?_
      exact ih14 (v_10, a_9) hf H locs ls hP hD hS (lv_sub hl [1, 2, 3, 4, 0] rfl)

def f_X4_power (p1 : Int64) (p2 : Int32) : Option (Int64) := (lp (fun (nx5 : (Int64 × Int32) → Option (Int64)) (q5 : Int64 × Int32) => (if p2 ≤ q5.2 then (some q5.1) else (nm (q5.1 * p1) fun v_2 => (nm (q5.2 + (1 : Int32)) fun v_3 => (nx5 (v_2, v_3)))))) 1000 ((1 : Int64), (0 : Int32)))
def rm_X4_power : Room := { frames := 0, cells := 0, slots := 0, locals := 0 }
theorem hd_X4_power : yX4_power.cls ≠ "java/lang/invoke/MethodHandle" ∧ yX4_power.cls ≠ "java/lang/invoke/VarHandle" ∧ (parseMethodDescriptor yX4_power.desc).map (fun d => d.parameters.length) = some 2 := by decide +kernel
set_option maxRecDepth 100000 in
set_option maxHeartbeats 4000000 in
theorem c_X4_power (l : Launch) (D : va_G) (cI : ClassId) (p1 : Int64) (p2 : Int32) (r : Int64) (hf : f_X4_power p1 p2 = some r) : Ct l yX4_power wsX4_power rm_X4_power D cI [] [] [.long p1, .int p2] (some (.long r)) := by
  unfold f_X4_power at hf
  refine Ct.ofL (cc := cX4_power) (maxL := 6) (by decide +kernel) rfl (Nat.le_of_ble_eq_true rfl) ?_
  intro p e s m args below meth c AA Q H locs ls hx hb hml hown hts hA hK hP hD hS hl hend0
  have hend : ∀ (r1 : Int64) (H : Heap) (locs : List Loc) (pc : Nat) (ls : Array Slot), some r1 = some r → va_P D vwCl [] H → va_S AA s.heap H locs → decode cX4_power pc = .ok (.lreturn, 1) → W p l e rm_X4_power s m args below meth c H locs 0 0 Q (F0 m pc ls [.long r1]) := by
    intro r1 H locs pc ls e1 hP hS hd; cases e1; exact hend0 H locs pc ls hP hS hd
  clear hend0
  replace hl : lv_has ls 6 [(0, .long p1), (2, .int p2)] := hl
  refine lv_lconst (v := 1) hx hb dX4_power_0 (by decide) ?_
  refine lv_lstore_n (lv' := [(3, .long (1 : Int64)), (0, .long p1), (2, .int p2)]) hx hb dX4_power_1 rfl hl (by decide) rfl (fun ls hl => ?_)
  refine lv_iconst (v := 0) hx hb dX4_power_2 (by decide) ?_
  refine lv_istore (lv' := [(5, .int (0 : Int32)), (3, .long (1 : Int64)), (0, .long p1), (2, .int p2)]) hx hb dX4_power_3 hl (by decide) rfl (fun ls hl => ?_)
  refine lp_ind (P := fun (q5 : Int64 × Int32) => ∀ (H : Heap) (locs : List Loc) (ls : Array Slot), va_P D vwCl [] H → va_D AA [] → va_S AA s.heap H locs → lv_has ls 6 [(0, .long p1), (2, .int p2), (3, .long q5.1), (5, .int q5.2)] → W p l e rm_X4_power s m args below meth c H locs 0 0 Q (F0 m 5 ls [])) hf ?_ H locs ls hP hD hS (lv_sub hl [2, 3, 1, 0] rfl)
  clear hf hP hD hS hl
  intro nx5 ih5 q5 hf H locs ls hP hD hS hl
  refine lv_iload hx hb dX4_power_5 (lv_at hl 3 rfl) ?_
  refine lv_iload_n hx hb dX4_power_7 rfl (lv_at hl 1 rfl) ?_
  refine lv_icmp_ge (tgt := 21) hx hb dX4_power_8 (by decide) (fun c_1 => ?_) (fun c_1 => ?_)
  · replace hf := if_t c_1 hf
    refine lv_lload_n hx hb dX4_power_21 rfl (lv_at hl 2 rfl) ?_
    exact hend q5.1 H locs _ _ hf hP hS dX4_power_22
  · replace hf := if_f c_1 hf
    refine lv_lload_n hx hb dX4_power_11 rfl (lv_at hl 2 rfl) ?_
    refine lv_lload_n hx hb dX4_power_12 rfl (lv_at hl 0 rfl) ?_
    refine lv_lmul hx hb dX4_power_13 ?_
    refine lv_topl (fun v_2 ev_2 => ?_)
    replace hf := nm_at ev_2 hf
    refine lv_lstore_n (lv' := [(3, .long v_2), (0, .long p1), (2, .int p2), (5, .int q5.2)]) hx hb dX4_power_14 rfl hl (by decide) rfl (fun ls hl => ?_)
    obtain ⟨v_3, ev_3, hf⟩ := nm_e hf
    refine lv_iinc (v := v_3) (lv' := [(5, .int v_3), (3, .long v_2), (0, .long p1), (2, .int p2)]) hx hb dX4_power_15 hl (k := 3) rfl (by rw [ev_3]; rfl) (by decide) rfl (fun ls hl => ?_)
    refine lv_goto (tgt := 5) hx hb dX4_power_18 (by decide) ?_
    exact ih5 (v_2, v_3) hf H locs ls hP hD hS (lv_sub hl [2, 3, 1, 0] rfl)

def f_X4_commonDivisor (p1 : Int64) (p2 : Int64) : Option (Int64) := (lp (fun (nx3 : (Int64 × Int64 × Int32) → Option (Int64)) (q3 : Int64 × Int64 × Int32) => (if (200 : Int32) ≤ q3.2.2 then (some q3.1) else (if (lg_cmp q3.2.1 (0 : Int64)) = 0 then (some q3.1) else (gd (¬ q3.2.1 = 0) (nm (q3.1 - q3.1 / q3.2.1 * q3.2.1) fun v_4 => (nm (q3.2.2 + (1 : Int32)) fun v_5 => (nx3 (q3.2.1, v_4, v_5)))))))) 1000 (p1, p2, (0 : Int32)))
def rm_X4_commonDivisor : Room := { frames := 0, cells := 0, slots := 0, locals := 0 }
theorem hd_X4_commonDivisor : yX4_commonDivisor.cls ≠ "java/lang/invoke/MethodHandle" ∧ yX4_commonDivisor.cls ≠ "java/lang/invoke/VarHandle" ∧ (parseMethodDescriptor yX4_commonDivisor.desc).map (fun d => d.parameters.length) = some 2 := by decide +kernel
set_option maxRecDepth 100000 in
set_option maxHeartbeats 4000000 in
theorem c_X4_commonDivisor (l : Launch) (D : va_G) (cI : ClassId) (p1 : Int64) (p2 : Int64) (r : Int64) (hf : f_X4_commonDivisor p1 p2 = some r) : Ct l yX4_commonDivisor wsX4_commonDivisor rm_X4_commonDivisor D cI [] [] [.long p1, .long p2] (some (.long r)) := by
  unfold f_X4_commonDivisor at hf
  refine Ct.ofL (cc := cX4_commonDivisor) (maxL := 7) (by decide +kernel) rfl (Nat.le_of_ble_eq_true rfl) ?_
  intro p e s m args below meth c AA Q H locs ls hx hb hml hown hts hA hK hP hD hS hl hend0
  have hend : ∀ (r1 : Int64) (H : Heap) (locs : List Loc) (pc : Nat) (ls : Array Slot), some r1 = some r → va_P D vwCl [] H → va_S AA s.heap H locs → decode cX4_commonDivisor pc = .ok (.lreturn, 1) → W p l e rm_X4_commonDivisor s m args below meth c H locs 0 0 Q (F0 m pc ls [.long r1]) := by
    intro r1 H locs pc ls e1 hP hS hd; cases e1; exact hend0 H locs pc ls hP hS hd
  clear hend0
  replace hl : lv_has ls 7 [(0, .long p1), (2, .long p2)] := hl
  refine lv_iconst (v := 0) hx hb dX4_commonDivisor_0 (by decide) ?_
  refine lv_istore (lv' := [(4, .int (0 : Int32)), (0, .long p1), (2, .long p2)]) hx hb dX4_commonDivisor_1 hl (by decide) rfl (fun ls hl => ?_)
  refine lp_ind (P := fun (q3 : Int64 × Int64 × Int32) => ∀ (H : Heap) (locs : List Loc) (ls : Array Slot), va_P D vwCl [] H → va_D AA [] → va_S AA s.heap H locs → lv_has ls 7 [(0, .long q3.1), (2, .long q3.2.1), (4, .int q3.2.2)] → W p l e rm_X4_commonDivisor s m args below meth c H locs 0 0 Q (F0 m 3 ls [])) hf ?_ H locs ls hP hD hS (lv_sub hl [1, 2, 0] rfl)
  clear hf hP hD hS hl
  intro nx3 ih3 q3 hf H locs ls hP hD hS hl
  refine lv_iload hx hb dX4_commonDivisor_3 (lv_at hl 2 rfl) ?_
  refine lv_sipush (v := 200) hx hb dX4_commonDivisor_5 (by decide +kernel) ?_
  refine lv_icmp_ge (tgt := 33) hx hb dX4_commonDivisor_8 (by decide) (fun c_1 => ?_) (fun c_1 => ?_)
  · replace hf := if_t c_1 hf
    refine lv_lload_n hx hb dX4_commonDivisor_33 rfl (lv_at hl 0 rfl) ?_
    exact hend q3.1 H locs _ _ hf hP hS dX4_commonDivisor_34
  · replace hf := if_f c_1 hf
    refine lv_lload_n hx hb dX4_commonDivisor_11 rfl (lv_at hl 1 rfl) ?_
    refine lv_lconst (v := 0) hx hb dX4_commonDivisor_12 (by decide) ?_
    refine W.lcmp hx hb dX4_commonDivisor_13 ?_
    refine lv_if_eq (tgt := 33) hx hb dX4_commonDivisor_14 (by decide) (fun c_2 => ?_) (fun c_2 => ?_)
    · replace hf := if_t c_2 hf
      refine lv_lload_n hx hb dX4_commonDivisor_33 rfl (lv_at hl 0 rfl) ?_
      exact hend q3.1 H locs _ _ hf hP hS dX4_commonDivisor_34
    · replace hf := if_f c_2 hf
      refine lv_lload_n hx hb dX4_commonDivisor_17 rfl (lv_at hl 0 rfl) ?_
      refine lv_lload_n hx hb dX4_commonDivisor_18 rfl (lv_at hl 1 rfl) ?_
      obtain ⟨c_3, hf⟩ := gd_e hf
      refine lv_lrem hx hb dX4_commonDivisor_19 c_3 ?_
      refine lv_topl (fun v_4 ev_4 => ?_)
      replace hf := nm_at ev_4 hf
      refine lv_lstore (lv' := [(5, .long v_4), (0, .long q3.1), (2, .long q3.2.1), (4, .int q3.2.2)]) hx hb dX4_commonDivisor_20 hl (by decide) rfl (fun ls hl => ?_)
      refine lv_lload_n hx hb dX4_commonDivisor_22 rfl (lv_at hl 2 rfl) ?_
      refine lv_lstore_n (lv' := [(0, .long q3.2.1), (5, .long v_4), (2, .long q3.2.1), (4, .int q3.2.2)]) hx hb dX4_commonDivisor_23 rfl hl (by decide) rfl (fun ls hl => ?_)
      refine lv_lload hx hb dX4_commonDivisor_24 (lv_at hl 1 rfl) ?_
      refine lv_lstore_n (lv' := [(2, .long v_4), (0, .long q3.2.1), (5, .long v_4), (4, .int q3.2.2)]) hx hb dX4_commonDivisor_26 rfl hl (by decide) rfl (fun ls hl => ?_)
      obtain ⟨v_5, ev_5, hf⟩ := nm_e hf
      refine lv_iinc (v := v_5) (lv' := [(4, .int v_5), (2, .long v_4), (0, .long q3.2.1), (5, .long v_4)]) hx hb dX4_commonDivisor_27 hl (k := 3) rfl (by rw [ev_5]; rfl) (by decide) rfl (fun ls hl => ?_)
      refine lv_goto (tgt := 3) hx hb dX4_commonDivisor_30 (by decide) ?_
      exact ih3 (q3.2.1, v_4, v_5) hf H locs ls hP hD hS (lv_sub hl [2, 1, 0] rfl)

def f_X4_fraction (p1 : Int64) (p2 : Int64) (p3 : Int32) : Option (Int64) := (bd (f_X4_commonDivisor p2 p1) fun a_1 => (if (lg_cmp a_1 (0 : Int64)) = 0 then (some (p3).toInt64) else (if p3 = 0 then (gd (¬ a_1 = 0) (some (p1 / a_1))) else (gd (¬ a_1 = 0) (some (p2 / a_1))))))
def rm_X4_fraction : Room := { frames := 1, cells := 0, slots := 0, locals := 26 }
theorem hd_X4_fraction : yX4_fraction.cls ≠ "java/lang/invoke/MethodHandle" ∧ yX4_fraction.cls ≠ "java/lang/invoke/VarHandle" ∧ (parseMethodDescriptor yX4_fraction.desc).map (fun d => d.parameters.length) = some 3 := by decide +kernel
set_option maxRecDepth 100000 in
set_option maxHeartbeats 4000000 in
theorem c_X4_fraction (l : Launch) (D : va_G) (cI : ClassId) (p1 : Int64) (p2 : Int64) (p3 : Int32) (r : Int64) (hf : f_X4_fraction p1 p2 p3 = some r) : Ct l yX4_fraction wsX4_fraction rm_X4_fraction D cI [] [] [.long p1, .long p2, .int p3] (some (.long r)) := by
  unfold f_X4_fraction at hf
  refine Ct.ofL (cc := cX4_fraction) (maxL := 7) (by decide +kernel) rfl (Nat.le_of_ble_eq_true rfl) ?_
  intro p e s m args below meth c AA Q H locs ls hx hb hml hown hts hA hK hP hD hS hl hend0
  have hend : ∀ (r1 : Int64) (H : Heap) (locs : List Loc) (pc : Nat) (ls : Array Slot), some r1 = some r → va_P D vwCl [] H → va_S AA s.heap H locs → decode cX4_fraction pc = .ok (.lreturn, 1) → W p l e rm_X4_fraction s m args below meth c H locs 0 0 Q (F0 m pc ls [.long r1]) := by
    intro r1 H locs pc ls e1 hP hS hd; cases e1; exact hend0 H locs pc ls hP hS hd
  clear hend0
  replace hl : lv_has ls 7 [(0, .long p1), (2, .long p2), (4, .int p3)] := hl
  refine lv_lload_n hx hb dX4_fraction_0 rfl (lv_at hl 1 rfl) ?_
  refine lv_lload_n hx hb dX4_fraction_1 rfl (lv_at hl 0 rfl) ?_
  obtain ⟨a_1, ha_1, hf⟩ := bd_e hf
  refine Ct.callS (As := [.long p2, .long p1]) (rest := []) (st1 := [.long a_1]) (c_X4_commonDivisor l D cI  p2 p1 a_1 ha_1) hx hb hml hown hts (va_cwS 2 hts gX4_fraction_X4_commonDivisor rfl rfl rfl hd_X4_commonDivisor ⟨Nat.le_of_ble_eq_true rfl, Nat.le_of_ble_eq_true rfl⟩) (Ln.id rfl) hA hK hP hD hS rfl hl.1 rfl rfl (Nat.le_of_ble_eq_true rfl) dX4_fraction_2 (fun H locs hP hD hS => ?_)
  refine lv_lstore (lv' := [(5, .long a_1), (0, .long p1), (2, .long p2), (4, .int p3)]) hx hb dX4_fraction_5 hl (by decide) rfl (fun ls hl => ?_)
  refine lv_lload hx hb dX4_fraction_7 (lv_at hl 0 rfl) ?_
  refine lv_lconst (v := 0) hx hb dX4_fraction_9 (by decide) ?_
  refine W.lcmp hx hb dX4_fraction_10 ?_
  refine lv_if_ne (tgt := 18) hx hb dX4_fraction_11 (by decide) (fun c_2 => ?_) (fun c_2 => ?_)
  · replace hf := if_f c_2 hf
    refine lv_iload hx hb dX4_fraction_18 (lv_at hl 3 rfl) ?_
    refine lv_if_ne (tgt := 27) hx hb dX4_fraction_20 (by decide) (fun c_3 => ?_) (fun c_3 => ?_)
    · replace hf := if_f c_3 hf
      refine lv_lload_n hx hb dX4_fraction_27 rfl (lv_at hl 2 rfl) ?_
      refine lv_lload hx hb dX4_fraction_28 (lv_at hl 0 rfl) ?_
      obtain ⟨c_4, hf⟩ := gd_e hf
      refine lv_ldiv hx hb dX4_fraction_30 c_4 ?_
      exact hend (p2 / a_1) H locs _ _ hf hP hS dX4_fraction_31
    · replace hf := if_t c_3 hf
      refine lv_lload_n hx hb dX4_fraction_23 rfl (lv_at hl 1 rfl) ?_
      refine lv_goto (tgt := 28) hx hb dX4_fraction_24 (by decide) ?_
      refine lv_lload hx hb dX4_fraction_28 (lv_at hl 0 rfl) ?_
      obtain ⟨c_5, hf⟩ := gd_e hf
      refine lv_ldiv hx hb dX4_fraction_30 c_5 ?_
      exact hend (p1 / a_1) H locs _ _ hf hP hS dX4_fraction_31
  · replace hf := if_t c_2 hf
    refine lv_iload hx hb dX4_fraction_14 (lv_at hl 3 rfl) ?_
    refine lv_i2l (v := (p3).toInt64) hx hb dX4_fraction_16 rfl ?_
    exact hend (p3).toInt64 H locs _ _ hf hP hS dX4_fraction_17

def f_X4_storm (n : St) (t : St) (k : St) (g : St) (w : St) (z : St) (q : St) (p1 : Int32) (p2 : Int32) (p3 : Int32) (p4 : Int32) : Option (Int64 × St × St) := (bd (f_X0_hasShip n p1) fun a_1 => (if a_1 = 0 then (bd (f_X4_refused n t k g w z q (-1 : Int32)) fun a_34 => (some (((4000000000000000000 : Int64) - (a_34.1).toInt64), t, a_34.2))) else (if p2 < 0 then (bd (f_X4_refused n t k g w z q (-4 : Int32)) fun a_4 => (some (((4000000000000000000 : Int64) - (a_4.1).toInt64), t, a_4.2))) else (if (2 : Int32) ≤ p3 then (if (7 : Int32) < p2 then (bd (f_X4_refused n t k g w z q (-6 : Int32)) fun a_7 => (some (((4000000000000000000 : Int64) - (a_7.1).toInt64), t, a_7.2))) else (if p3 ≤ (20 : Int32) then (if p4 = 0 then (lp (fun (nx96 : (Int64 × Int32 × St) → Option (Int64 × St × St)) (q96 : Int64 × Int32 × St) => (if ((1 : Int32) <<< (p2 &&& 31)) ≤ q96.2.1 then (bd (f_X4_power (p3).toInt64 p2) fun a_11 => (bd (f_X4_fraction q96.1 a_11 p4) fun a_12 => (some (a_12, q96.2.2, q)))) else (bd (f_X4_isOutBehind n q96.2.2 k g w z q p1 p2 q96.2.1) fun a_13 => (if a_13.1 = 0 then (nm (q96.2.1 + (1 : Int32)) fun v_15 => (nx96 (q96.1, v_15, a_13.2))) else (bd (f_J6_bitCount_0f7a4 q96.2.1) fun a_16 => (bd (f_X4_power ((p3 - (1 : Int32))).toInt64 (p2 - a_16)) fun a_17 => (nm (q96.1 + a_17) fun v_18 => (nm (q96.2.1 + (1 : Int32)) fun v_19 => (nx96 (v_18, v_19, a_13.2)))))))))) 1000 ((0 : Int64), (0 : Int32), t)) else (if p4 = (1 : Int32) then (lp (fun (nx96 : (Int64 × Int32 × St) → Option (Int64 × St × St)) (q96 : Int64 × Int32 × St) => (if ((1 : Int32) <<< (p2 &&& 31)) ≤ q96.2.1 then (bd (f_X4_power (p3).toInt64 p2) fun a_22 => (bd (f_X4_fraction q96.1 a_22 p4) fun a_23 => (some (a_23, q96.2.2, q)))) else (bd (f_X4_isOutBehind n q96.2.2 k g w z q p1 p2 q96.2.1) fun a_24 => (if a_24.1 = 0 then (nm (q96.2.1 + (1 : Int32)) fun v_26 => (nx96 (q96.1, v_26, a_24.2))) else (bd (f_J6_bitCount_0f7a4 q96.2.1) fun a_27 => (bd (f_X4_power ((p3 - (1 : Int32))).toInt64 (p2 - a_27)) fun a_28 => (nm (q96.1 + a_28) fun v_29 => (nm (q96.2.1 + (1 : Int32)) fun v_30 => (nx96 (v_29, v_30, a_24.2)))))))))) 1000 ((0 : Int64), (0 : Int32), t)) else (bd (f_X4_refused n t k g w z q (-2 : Int32)) fun a_31 => (some (((4000000000000000000 : Int64) - (a_31.1).toInt64), t, a_31.2))))) else (bd (f_X4_refused n t k g w z q (-6 : Int32)) fun a_32 => (some (((4000000000000000000 : Int64) - (a_32.1).toInt64), t, a_32.2))))) else (bd (f_X4_refused n t k g w z q (-4 : Int32)) fun a_33 => (some (((4000000000000000000 : Int64) - (a_33.1).toInt64), t, a_33.2)))))))
def rm_X4_storm : Room := { frames := 5, cells := 0, slots := 0, locals := 109 }
theorem hd_X4_storm : yX4_storm.cls = RX4 ∧ yX4_storm.cls ≠ "java/lang/invoke/MethodHandle" ∧ yX4_storm.cls ≠ "java/lang/invoke/VarHandle" ∧ (parseMethodDescriptor yX4_storm.desc).map (fun d => d.parameters.length) = some 4 := by decide +kernel
set_option maxRecDepth 100000 in
set_option maxHeartbeats 4000000 in
theorem c_X4_storm (l : Launch) (D : va_G) (cI : ClassId) (A : Nat → Nat) (n : St) (t : St) (k : St) (g : St) (w : St) (z : St) (q : St) (p1 : Int32) (p2 : Int32) (p3 : Int32) (p4 : Int32) (r : Int64 × St × St) (hf : f_X4_storm n t k g w z q p1 p2 p3 p4 = some r) : Ct l yX4_storm wsX4_storm rm_X4_storm D cI (cX cI A n t k g w z q) (cX cI A n r.2.1 k g w z r.2.2) [.ref (A 0), .int p1, .int p2, .int p3, .int p4] (some (.long r.1)) := by
  unfold f_X4_storm at hf
  refine Ct.ofL (cc := cX4_storm) (maxL := 8) (by decide +kernel) rfl (Nat.le_of_ble_eq_true rfl) ?_
  intro p e s m args below meth c AA Q H locs ls hx hb hml hown hts hA hK hP hD hS hl hend0
  have hend : ∀ (r1 : Int64 × St × St) (H : Heap) (locs : List Loc) (pc : Nat) (ls : Array Slot), some r1 = some r → va_P D vwCl (cX cI A n r1.2.1 k g w z r1.2.2) H → va_S AA s.heap H locs → decode cX4_storm pc = .ok (.lreturn, 1) → W p l e rm_X4_storm s m args below meth c H locs 0 0 Q (F0 m pc ls [.long r1.1]) := by
    intro r1 H locs pc ls e1 hP hS hd; cases e1; exact hend0 H locs pc ls hP hS hd
  clear hend0
  have hw4 : ∀ w ∈ wsX40, w ∈ wsX4_storm := by decide +kernel
  have k10 := hts (.fieldLink RX4 10 "AnchorsForConfession" "now" "LAnchorsForConfession$Harbour;") (by decide +kernel)
  have kc194 := hts (.constantLong RX4 194 4000000000000000000) (by decide +kernel)
  replace hl : lv_has ls 8 [(0, .ref (A 0)), (1, .int p1), (2, .int p2), (3, .int p3), (4, .int p4)] := hl
  refine lv_aload_n hx hb dX4_storm_0 rfl (lv_at hl 0 rfl) ?_
  refine va_get (D := D) (ci := 4) (v := .ref (A 1)) (C := RX4) (T := TX4) (N := 8) hx hb hts hw4 hown hK hP 0 cX_at0 rfl 0 (by decide) k10 (fun _ h9 => h9) rfl dX4_storm_1 ?_
  refine lv_iload_n hx hb dX4_storm_4 rfl (lv_at hl 1 rfl) ?_
  obtain ⟨a_1, ha_1, hf⟩ := bd_e hf
  refine Ct.callV (As := [.int p1]) (rest := []) (st1 := [.int a_1]) (c_X0_hasShip l D cI (fun j => A (1 + j)) n p1 a_1 ha_1) hx hb hml hown hts (cwV 1 hts gX4_storm_X0_hasShip rfl rfl rfl hd_X0_hasShip ⟨Nat.le_of_ble_eq_true rfl, Nat.le_of_ble_eq_true rfl⟩) (va_recv hK hP (ci := 0) (q0 := 1) rfl cX_at1) ln_X_H_n hA hK hP hD hS rfl hl.1 rfl rfl (Nat.le_of_ble_eq_true rfl) dX4_storm_5 (fun H locs hP hD hS => ?_)
  refine lv_if_ne (tgt := 22) hx hb dX4_storm_8 (by decide) (fun c_2 => ?_) (fun c_2 => ?_)
  · replace hf := if_f c_2 hf
    refine lv_iload_n hx hb dX4_storm_22 rfl (lv_at hl 2 rfl) ?_
    refine lv_if_lt (tgt := 31) hx hb dX4_storm_23 (by decide) (fun c_3 => ?_) (fun c_3 => ?_)
    · replace hf := if_t c_3 hf
      refine lv_ldc2 (v := 4000000000000000000) hx hb hown kc194 dX4_storm_31 ?_
      refine lv_aload_n hx hb dX4_storm_34 rfl (lv_at hl 0 rfl) ?_
      refine lv_bipush (v := -4) hx hb dX4_storm_35 (by decide +kernel) ?_
      obtain ⟨a_4, ha_4, hf⟩ := bd_e hf
      refine Ct.callV (As := [.int (-4 : Int32)]) (rest := [.long (4000000000000000000 : Int64)]) (st1 := [.int a_4.1, .long (4000000000000000000 : Int64)]) (c_X4_refused l D cI A n t k g w z q (-4 : Int32) a_4 ha_4) hx hb hml hown hts (cwV 1 hts gX4_storm_X4_refused rfl rfl rfl hd_X4_refused ⟨Nat.le_of_ble_eq_true rfl, Nat.le_of_ble_eq_true rfl⟩) (va_recv hK hP (ci := 4) (q0 := 0) rfl cX_at0) (Ln.id rfl) hA hK hP hD hS rfl hl.1 rfl rfl (Nat.le_of_ble_eq_true rfl) dX4_storm_37 (fun H locs hP hD hS => ?_)
      replace hP : va_P D vwCl (cX cI A n t k g w z a_4.2) H := hP
      replace hD : va_D AA (cX cI A n t k g w z a_4.2) := hD
      refine lv_i2l (v := (a_4.1).toInt64) hx hb dX4_storm_40 rfl ?_
      refine lv_lsub hx hb dX4_storm_41 ?_
      exact hend (((4000000000000000000 : Int64) - (a_4.1).toInt64), t, a_4.2) H locs _ _ hf hP hS dX4_storm_42
    · replace hf := if_f c_3 hf
      refine lv_iload_n hx hb dX4_storm_26 rfl (lv_at hl 3 rfl) ?_
      refine lv_iconst (v := 2) hx hb dX4_storm_27 (by decide) ?_
      refine lv_icmp_ge (tgt := 43) hx hb dX4_storm_28 (by decide) (fun c_5 => ?_) (fun c_5 => ?_)
      · replace hf := if_t c_5 hf
        refine lv_iload_n hx hb dX4_storm_43 rfl (lv_at hl 2 rfl) ?_
        refine lv_bipush (v := 7) hx hb dX4_storm_44 (by decide +kernel) ?_
        refine lv_icmp_gt (tgt := 55) hx hb dX4_storm_46 (by decide) (fun c_6 => ?_) (fun c_6 => ?_)
        · replace hf := if_t c_6 hf
          refine lv_ldc2 (v := 4000000000000000000) hx hb hown kc194 dX4_storm_55 ?_
          refine lv_aload_n hx hb dX4_storm_58 rfl (lv_at hl 0 rfl) ?_
          refine lv_bipush (v := -6) hx hb dX4_storm_59 (by decide +kernel) ?_
          obtain ⟨a_7, ha_7, hf⟩ := bd_e hf
          refine Ct.callV (As := [.int (-6 : Int32)]) (rest := [.long (4000000000000000000 : Int64)]) (st1 := [.int a_7.1, .long (4000000000000000000 : Int64)]) (c_X4_refused l D cI A n t k g w z q (-6 : Int32) a_7 ha_7) hx hb hml hown hts (cwV 1 hts gX4_storm_X4_refused rfl rfl rfl hd_X4_refused ⟨Nat.le_of_ble_eq_true rfl, Nat.le_of_ble_eq_true rfl⟩) (va_recv hK hP (ci := 4) (q0 := 0) rfl cX_at0) (Ln.id rfl) hA hK hP hD hS rfl hl.1 rfl rfl (Nat.le_of_ble_eq_true rfl) dX4_storm_61 (fun H locs hP hD hS => ?_)
          replace hP : va_P D vwCl (cX cI A n t k g w z a_7.2) H := hP
          replace hD : va_D AA (cX cI A n t k g w z a_7.2) := hD
          refine lv_i2l (v := (a_7.1).toInt64) hx hb dX4_storm_64 rfl ?_
          refine lv_lsub hx hb dX4_storm_65 ?_
          exact hend (((4000000000000000000 : Int64) - (a_7.1).toInt64), t, a_7.2) H locs _ _ hf hP hS dX4_storm_66
        · replace hf := if_f c_6 hf
          refine lv_iload_n hx hb dX4_storm_49 rfl (lv_at hl 3 rfl) ?_
          refine lv_bipush (v := 20) hx hb dX4_storm_50 (by decide +kernel) ?_
          refine lv_icmp_le (tgt := 67) hx hb dX4_storm_52 (by decide) (fun c_8 => ?_) (fun c_8 => ?_)
          · replace hf := if_t c_8 hf
            refine lv_iload hx hb dX4_storm_67 (lv_at hl 4 rfl) ?_
            refine lv_if_eq (tgt := 90) hx hb dX4_storm_69 (by decide) (fun c_9 => ?_) (fun c_9 => ?_)
            · replace hf := if_t c_9 hf
              refine lv_lconst (v := 0) hx hb dX4_storm_90 (by decide) ?_
              refine lv_lstore (lv' := [(5, .long (0 : Int64)), (0, .ref (A 0)), (1, .int p1), (2, .int p2), (3, .int p3), (4, .int p4)]) hx hb dX4_storm_91 hl (by decide) rfl (fun ls hl => ?_)
              refine lv_iconst (v := 0) hx hb dX4_storm_93 (by decide) ?_
              refine lv_istore (lv' := [(7, .int (0 : Int32)), (5, .long (0 : Int64)), (0, .ref (A 0)), (1, .int p1), (2, .int p2), (3, .int p3), (4, .int p4)]) hx hb dX4_storm_94 hl (by decide) rfl (fun ls hl => ?_)
              refine lp_ind (P := fun (q96 : Int64 × Int32 × St) => ∀ (H : Heap) (locs : List Loc) (ls : Array Slot), va_P D vwCl (cX cI A n q96.2.2 k g w z q) H → va_D AA (cX cI A n q96.2.2 k g w z q) → va_S AA s.heap H locs → lv_has ls 8 [(0, .ref (A 0)), (1, .int p1), (2, .int p2), (3, .int p3), (4, .int p4), (5, .long q96.1), (7, .int q96.2.1)] → W p l e rm_X4_storm s m args below meth c H locs 0 0 Q (F0 m 96 ls [])) hf ?_ H locs ls hP hD hS (lv_sub hl [2, 3, 4, 5, 6, 1, 0] rfl)
              clear hf hP hD hS hl
              intro nx96 ih96 q96 hf H locs ls hP hD hS hl
              refine lv_iload hx hb dX4_storm_96 (lv_at hl 6 rfl) ?_
              refine lv_iconst (v := 1) hx hb dX4_storm_98 (by decide) ?_
              refine lv_iload_n hx hb dX4_storm_99 rfl (lv_at hl 2 rfl) ?_
              refine lv_ishl hx hb dX4_storm_100 ?_
              refine lv_icmp_ge (tgt := 140) hx hb dX4_storm_101 (by decide) (fun c_10 => ?_) (fun c_10 => ?_)
              · replace hf := if_t c_10 hf
                refine lv_lload hx hb dX4_storm_140 (lv_at hl 5 rfl) ?_
                refine lv_iload_n hx hb dX4_storm_142 rfl (lv_at hl 3 rfl) ?_
                refine lv_i2l (v := (p3).toInt64) hx hb dX4_storm_143 rfl ?_
                refine lv_iload_n hx hb dX4_storm_144 rfl (lv_at hl 2 rfl) ?_
                obtain ⟨a_11, ha_11, hf⟩ := bd_e hf
                refine Ct.callS (As := [.long (p3).toInt64, .int p2]) (rest := [.long q96.1]) (st1 := [.long a_11, .long q96.1]) (c_X4_power l D cI  (p3).toInt64 p2 a_11 ha_11) hx hb hml hown hts (va_cwS 2 hts gX4_storm_X4_power rfl rfl rfl hd_X4_power ⟨Nat.le_of_ble_eq_true rfl, Nat.le_of_ble_eq_true rfl⟩) Ln.nil hA hK hP hD hS rfl hl.1 rfl rfl (Nat.le_of_ble_eq_true rfl) dX4_storm_145 (fun H locs hP hD hS => ?_)
                refine lv_iload hx hb dX4_storm_148 (lv_at hl 4 rfl) ?_
                obtain ⟨a_12, ha_12, hf⟩ := bd_e hf
                refine Ct.callS (As := [.long q96.1, .long a_11, .int p4]) (rest := []) (st1 := [.long a_12]) (c_X4_fraction l D cI  q96.1 a_11 p4 a_12 ha_12) hx hb hml hown hts (va_cwS 3 hts gX4_storm_X4_fraction rfl rfl rfl hd_X4_fraction ⟨Nat.le_of_ble_eq_true rfl, Nat.le_of_ble_eq_true rfl⟩) Ln.nil hA hK hP hD hS rfl hl.1 rfl rfl (Nat.le_of_ble_eq_true rfl) dX4_storm_150 (fun H locs hP hD hS => ?_)
                exact hend (a_12, q96.2.2, q) H locs _ _ hf hP hS dX4_storm_153
              · replace hf := if_f c_10 hf
                refine lv_aload_n hx hb dX4_storm_104 rfl (lv_at hl 0 rfl) ?_
                refine lv_iload_n hx hb dX4_storm_105 rfl (lv_at hl 1 rfl) ?_
                refine lv_iload_n hx hb dX4_storm_106 rfl (lv_at hl 2 rfl) ?_
                refine lv_iload hx hb dX4_storm_107 (lv_at hl 6 rfl) ?_
                obtain ⟨a_13, ha_13, hf⟩ := bd_e hf
                refine Ct.callV (As := [.int p1, .int p2, .int q96.2.1]) (rest := []) (st1 := [.int a_13.1]) (c_X4_isOutBehind l D cI A n q96.2.2 k g w z q p1 p2 q96.2.1 a_13 ha_13) hx hb hml hown hts (cwV 3 hts gX4_storm_X4_isOutBehind rfl rfl rfl hd_X4_isOutBehind ⟨Nat.le_of_ble_eq_true rfl, Nat.le_of_ble_eq_true rfl⟩) (va_recv hK hP (ci := 4) (q0 := 0) rfl cX_at0) (Ln.id rfl) hA hK hP hD hS rfl hl.1 rfl rfl (Nat.le_of_ble_eq_true rfl) dX4_storm_109 (fun H locs hP hD hS => ?_)
                replace hP : va_P D vwCl (cX cI A n a_13.2 k g w z q) H := hP
                replace hD : va_D AA (cX cI A n a_13.2 k g w z q) := hD
                refine lv_if_eq (tgt := 134) hx hb dX4_storm_112 (by decide) (fun c_14 => ?_) (fun c_14 => ?_)
                · replace hf := if_t c_14 hf
                  obtain ⟨v_15, ev_15, hf⟩ := nm_e hf
                  refine lv_iinc (v := v_15) (lv' := [(7, .int v_15), (0, .ref (A 0)), (1, .int p1), (2, .int p2), (3, .int p3), (4, .int p4), (5, .long q96.1)]) hx hb dX4_storm_134 hl (k := 6) rfl (by rw [ev_15]; rfl) (by decide) rfl (fun ls hl => ?_)
                  refine lv_goto (tgt := 96) hx hb dX4_storm_137 (by decide) ?_
                  exact ih96 (q96.1, v_15, a_13.2) hf H locs ls hP hD hS (lv_sub hl [1, 2, 3, 4, 5, 6, 0] rfl)
                · replace hf := if_f c_14 hf
                  refine lv_lload hx hb dX4_storm_115 (lv_at hl 5 rfl) ?_
                  refine lv_iload_n hx hb dX4_storm_117 rfl (lv_at hl 3 rfl) ?_
                  refine lv_iconst (v := 1) hx hb dX4_storm_118 (by decide) ?_
                  refine lv_isub hx hb dX4_storm_119 ?_
                  refine lv_i2l (v := ((p3 - (1 : Int32))).toInt64) hx hb dX4_storm_120 rfl ?_
                  refine lv_iload_n hx hb dX4_storm_121 rfl (lv_at hl 2 rfl) ?_
                  refine lv_iload hx hb dX4_storm_122 (lv_at hl 6 rfl) ?_
                  obtain ⟨a_16, ha_16, hf⟩ := bd_e hf
                  refine Ct.callS (As := [.int q96.2.1]) (rest := [.int p2, .long ((p3 - (1 : Int32))).toInt64, .long q96.1]) (st1 := [.int a_16, .int p2, .long ((p3 - (1 : Int32))).toInt64, .long q96.1]) (c_J6_bitCount_0f7a4 l D cI  q96.2.1 a_16 ha_16) hx hb hml hown hts (va_cwS 1 hts gX4_storm_J6_bitCount_0f7a4 rfl rfl rfl hd_J6_bitCount_0f7a4 ⟨Nat.le_of_ble_eq_true rfl, Nat.le_of_ble_eq_true rfl⟩) Ln.nil hA hK hP hD hS rfl hl.1 rfl rfl (Nat.le_of_ble_eq_true rfl) dX4_storm_124 (fun H locs hP hD hS => ?_)
                  refine lv_isub hx hb dX4_storm_127 ?_
                  obtain ⟨a_17, ha_17, hf⟩ := bd_e hf
                  refine Ct.callS (As := [.long ((p3 - (1 : Int32))).toInt64, .int (p2 - a_16)]) (rest := [.long q96.1]) (st1 := [.long a_17, .long q96.1]) (c_X4_power l D cI  ((p3 - (1 : Int32))).toInt64 (p2 - a_16) a_17 ha_17) hx hb hml hown hts (va_cwS 2 hts gX4_storm_X4_power rfl rfl rfl hd_X4_power ⟨Nat.le_of_ble_eq_true rfl, Nat.le_of_ble_eq_true rfl⟩) Ln.nil hA hK hP hD hS rfl hl.1 rfl rfl (Nat.le_of_ble_eq_true rfl) dX4_storm_128 (fun H locs hP hD hS => ?_)
                  refine lv_ladd hx hb dX4_storm_131 ?_
                  refine lv_topl (fun v_18 ev_18 => ?_)
                  replace hf := nm_at ev_18 hf
                  refine lv_lstore (lv' := [(5, .long v_18), (0, .ref (A 0)), (1, .int p1), (2, .int p2), (3, .int p3), (4, .int p4), (7, .int q96.2.1)]) hx hb dX4_storm_132 hl (by decide) rfl (fun ls hl => ?_)
                  obtain ⟨v_19, ev_19, hf⟩ := nm_e hf
                  refine lv_iinc (v := v_19) (lv' := [(7, .int v_19), (5, .long v_18), (0, .ref (A 0)), (1, .int p1), (2, .int p2), (3, .int p3), (4, .int p4)]) hx hb dX4_storm_134 hl (k := 6) rfl (by rw [ev_19]; rfl) (by decide) rfl (fun ls hl => ?_)
                  refine lv_goto (tgt := 96) hx hb dX4_storm_137 (by decide) ?_
                  exact ih96 (v_18, v_19, a_13.2) hf H locs ls hP hD hS (lv_sub hl [2, 3, 4, 5, 6, 1, 0] rfl)
            · replace hf := if_f c_9 hf
              refine lv_iload hx hb dX4_storm_72 (lv_at hl 4 rfl) ?_
              refine lv_iconst (v := 1) hx hb dX4_storm_74 (by decide) ?_
              refine lv_icmp_eq (tgt := 90) hx hb dX4_storm_75 (by decide) (fun c_20 => ?_) (fun c_20 => ?_)
              · replace hf := if_t c_20 hf
                refine lv_lconst (v := 0) hx hb dX4_storm_90 (by decide) ?_
                refine lv_lstore (lv' := [(5, .long (0 : Int64)), (0, .ref (A 0)), (1, .int p1), (2, .int p2), (3, .int p3), (4, .int p4)]) hx hb dX4_storm_91 hl (by decide) rfl (fun ls hl => ?_)
                refine lv_iconst (v := 0) hx hb dX4_storm_93 (by decide) ?_
                refine lv_istore (lv' := [(7, .int (0 : Int32)), (5, .long (0 : Int64)), (0, .ref (A 0)), (1, .int p1), (2, .int p2), (3, .int p3), (4, .int p4)]) hx hb dX4_storm_94 hl (by decide) rfl (fun ls hl => ?_)
                refine lp_ind (P := fun (q96 : Int64 × Int32 × St) => ∀ (H : Heap) (locs : List Loc) (ls : Array Slot), va_P D vwCl (cX cI A n q96.2.2 k g w z q) H → va_D AA (cX cI A n q96.2.2 k g w z q) → va_S AA s.heap H locs → lv_has ls 8 [(0, .ref (A 0)), (1, .int p1), (2, .int p2), (3, .int p3), (4, .int p4), (5, .long q96.1), (7, .int q96.2.1)] → W p l e rm_X4_storm s m args below meth c H locs 0 0 Q (F0 m 96 ls [])) hf ?_ H locs ls hP hD hS (lv_sub hl [2, 3, 4, 5, 6, 1, 0] rfl)
                clear hf hP hD hS hl
                intro nx96 ih96 q96 hf H locs ls hP hD hS hl
                refine lv_iload hx hb dX4_storm_96 (lv_at hl 6 rfl) ?_
                refine lv_iconst (v := 1) hx hb dX4_storm_98 (by decide) ?_
                refine lv_iload_n hx hb dX4_storm_99 rfl (lv_at hl 2 rfl) ?_
                refine lv_ishl hx hb dX4_storm_100 ?_
                refine lv_icmp_ge (tgt := 140) hx hb dX4_storm_101 (by decide) (fun c_21 => ?_) (fun c_21 => ?_)
                · replace hf := if_t c_21 hf
                  refine lv_lload hx hb dX4_storm_140 (lv_at hl 5 rfl) ?_
                  refine lv_iload_n hx hb dX4_storm_142 rfl (lv_at hl 3 rfl) ?_
                  refine lv_i2l (v := (p3).toInt64) hx hb dX4_storm_143 rfl ?_
                  refine lv_iload_n hx hb dX4_storm_144 rfl (lv_at hl 2 rfl) ?_
                  obtain ⟨a_22, ha_22, hf⟩ := bd_e hf
                  refine Ct.callS (As := [.long (p3).toInt64, .int p2]) (rest := [.long q96.1]) (st1 := [.long a_22, .long q96.1]) (c_X4_power l D cI  (p3).toInt64 p2 a_22 ha_22) hx hb hml hown hts (va_cwS 2 hts gX4_storm_X4_power rfl rfl rfl hd_X4_power ⟨Nat.le_of_ble_eq_true rfl, Nat.le_of_ble_eq_true rfl⟩) Ln.nil hA hK hP hD hS rfl hl.1 rfl rfl (Nat.le_of_ble_eq_true rfl) dX4_storm_145 (fun H locs hP hD hS => ?_)
                  refine lv_iload hx hb dX4_storm_148 (lv_at hl 4 rfl) ?_
                  obtain ⟨a_23, ha_23, hf⟩ := bd_e hf
                  refine Ct.callS (As := [.long q96.1, .long a_22, .int p4]) (rest := []) (st1 := [.long a_23]) (c_X4_fraction l D cI  q96.1 a_22 p4 a_23 ha_23) hx hb hml hown hts (va_cwS 3 hts gX4_storm_X4_fraction rfl rfl rfl hd_X4_fraction ⟨Nat.le_of_ble_eq_true rfl, Nat.le_of_ble_eq_true rfl⟩) Ln.nil hA hK hP hD hS rfl hl.1 rfl rfl (Nat.le_of_ble_eq_true rfl) dX4_storm_150 (fun H locs hP hD hS => ?_)
                  exact hend (a_23, q96.2.2, q) H locs _ _ hf hP hS dX4_storm_153
                · replace hf := if_f c_21 hf
                  refine lv_aload_n hx hb dX4_storm_104 rfl (lv_at hl 0 rfl) ?_
                  refine lv_iload_n hx hb dX4_storm_105 rfl (lv_at hl 1 rfl) ?_
                  refine lv_iload_n hx hb dX4_storm_106 rfl (lv_at hl 2 rfl) ?_
                  refine lv_iload hx hb dX4_storm_107 (lv_at hl 6 rfl) ?_
                  obtain ⟨a_24, ha_24, hf⟩ := bd_e hf
                  refine Ct.callV (As := [.int p1, .int p2, .int q96.2.1]) (rest := []) (st1 := [.int a_24.1]) (c_X4_isOutBehind l D cI A n q96.2.2 k g w z q p1 p2 q96.2.1 a_24 ha_24) hx hb hml hown hts (cwV 3 hts gX4_storm_X4_isOutBehind rfl rfl rfl hd_X4_isOutBehind ⟨Nat.le_of_ble_eq_true rfl, Nat.le_of_ble_eq_true rfl⟩) (va_recv hK hP (ci := 4) (q0 := 0) rfl cX_at0) (Ln.id rfl) hA hK hP hD hS rfl hl.1 rfl rfl (Nat.le_of_ble_eq_true rfl) dX4_storm_109 (fun H locs hP hD hS => ?_)
                  replace hP : va_P D vwCl (cX cI A n a_24.2 k g w z q) H := hP
                  replace hD : va_D AA (cX cI A n a_24.2 k g w z q) := hD
                  refine lv_if_eq (tgt := 134) hx hb dX4_storm_112 (by decide) (fun c_25 => ?_) (fun c_25 => ?_)
                  · replace hf := if_t c_25 hf
                    obtain ⟨v_26, ev_26, hf⟩ := nm_e hf
                    refine lv_iinc (v := v_26) (lv' := [(7, .int v_26), (0, .ref (A 0)), (1, .int p1), (2, .int p2), (3, .int p3), (4, .int p4), (5, .long q96.1)]) hx hb dX4_storm_134 hl (k := 6) rfl (by rw [ev_26]; rfl) (by decide) rfl (fun ls hl => ?_)
                    refine lv_goto (tgt := 96) hx hb dX4_storm_137 (by decide) ?_
                    exact ih96 (q96.1, v_26, a_24.2) hf H locs ls hP hD hS (lv_sub hl [1, 2, 3, 4, 5, 6, 0] rfl)
                  · replace hf := if_f c_25 hf
                    refine lv_lload hx hb dX4_storm_115 (lv_at hl 5 rfl) ?_
                    refine lv_iload_n hx hb dX4_storm_117 rfl (lv_at hl 3 rfl) ?_
                    refine lv_iconst (v := 1) hx hb dX4_storm_118 (by decide) ?_
                    refine lv_isub hx hb dX4_storm_119 ?_
                    refine lv_i2l (v := ((p3 - (1 : Int32))).toInt64) hx hb dX4_storm_120 rfl ?_
                    refine lv_iload_n hx hb dX4_storm_121 rfl (lv_at hl 2 rfl) ?_
                    refine lv_iload hx hb dX4_storm_122 (lv_at hl 6 rfl) ?_
                    obtain ⟨a_27, ha_27, hf⟩ := bd_e hf
                    refine Ct.callS (As := [.int q96.2.1]) (rest := [.int p2, .long ((p3 - (1 : Int32))).toInt64, .long q96.1]) (st1 := [.int a_27, .int p2, .long ((p3 - (1 : Int32))).toInt64, .long q96.1]) (c_J6_bitCount_0f7a4 l D cI  q96.2.1 a_27 ha_27) hx hb hml hown hts (va_cwS 1 hts gX4_storm_J6_bitCount_0f7a4 rfl rfl rfl hd_J6_bitCount_0f7a4 ⟨Nat.le_of_ble_eq_true rfl, Nat.le_of_ble_eq_true rfl⟩) Ln.nil hA hK hP hD hS rfl hl.1 rfl rfl (Nat.le_of_ble_eq_true rfl) dX4_storm_124 (fun H locs hP hD hS => ?_)
                    refine lv_isub hx hb dX4_storm_127 ?_
                    obtain ⟨a_28, ha_28, hf⟩ := bd_e hf
                    refine Ct.callS (As := [.long ((p3 - (1 : Int32))).toInt64, .int (p2 - a_27)]) (rest := [.long q96.1]) (st1 := [.long a_28, .long q96.1]) (c_X4_power l D cI  ((p3 - (1 : Int32))).toInt64 (p2 - a_27) a_28 ha_28) hx hb hml hown hts (va_cwS 2 hts gX4_storm_X4_power rfl rfl rfl hd_X4_power ⟨Nat.le_of_ble_eq_true rfl, Nat.le_of_ble_eq_true rfl⟩) Ln.nil hA hK hP hD hS rfl hl.1 rfl rfl (Nat.le_of_ble_eq_true rfl) dX4_storm_128 (fun H locs hP hD hS => ?_)
                    refine lv_ladd hx hb dX4_storm_131 ?_
                    refine lv_topl (fun v_29 ev_29 => ?_)
                    replace hf := nm_at ev_29 hf
                    refine lv_lstore (lv' := [(5, .long v_29), (0, .ref (A 0)), (1, .int p1), (2, .int p2), (3, .int p3), (4, .int p4), (7, .int q96.2.1)]) hx hb dX4_storm_132 hl (by decide) rfl (fun ls hl => ?_)
                    obtain ⟨v_30, ev_30, hf⟩ := nm_e hf
                    refine lv_iinc (v := v_30) (lv' := [(7, .int v_30), (5, .long v_29), (0, .ref (A 0)), (1, .int p1), (2, .int p2), (3, .int p3), (4, .int p4)]) hx hb dX4_storm_134 hl (k := 6) rfl (by rw [ev_30]; rfl) (by decide) rfl (fun ls hl => ?_)
                    refine lv_goto (tgt := 96) hx hb dX4_storm_137 (by decide) ?_
                    exact ih96 (v_29, v_30, a_24.2) hf H locs ls hP hD hS (lv_sub hl [2, 3, 4, 5, 6, 1, 0] rfl)
              · replace hf := if_f c_20 hf
                refine lv_ldc2 (v := 4000000000000000000) hx hb hown kc194 dX4_storm_78 ?_
                refine lv_aload_n hx hb dX4_storm_81 rfl (lv_at hl 0 rfl) ?_
                refine lv_bipush (v := -2) hx hb dX4_storm_82 (by decide +kernel) ?_
                obtain ⟨a_31, ha_31, hf⟩ := bd_e hf
                refine Ct.callV (As := [.int (-2 : Int32)]) (rest := [.long (4000000000000000000 : Int64)]) (st1 := [.int a_31.1, .long (4000000000000000000 : Int64)]) (c_X4_refused l D cI A n t k g w z q (-2 : Int32) a_31 ha_31) hx hb hml hown hts (cwV 1 hts gX4_storm_X4_refused rfl rfl rfl hd_X4_refused ⟨Nat.le_of_ble_eq_true rfl, Nat.le_of_ble_eq_true rfl⟩) (va_recv hK hP (ci := 4) (q0 := 0) rfl cX_at0) (Ln.id rfl) hA hK hP hD hS rfl hl.1 rfl rfl (Nat.le_of_ble_eq_true rfl) dX4_storm_84 (fun H locs hP hD hS => ?_)
                replace hP : va_P D vwCl (cX cI A n t k g w z a_31.2) H := hP
                replace hD : va_D AA (cX cI A n t k g w z a_31.2) := hD
                refine lv_i2l (v := (a_31.1).toInt64) hx hb dX4_storm_87 rfl ?_
                refine lv_lsub hx hb dX4_storm_88 ?_
                exact hend (((4000000000000000000 : Int64) - (a_31.1).toInt64), t, a_31.2) H locs _ _ hf hP hS dX4_storm_89
          · replace hf := if_f c_8 hf
            refine lv_ldc2 (v := 4000000000000000000) hx hb hown kc194 dX4_storm_55 ?_
            refine lv_aload_n hx hb dX4_storm_58 rfl (lv_at hl 0 rfl) ?_
            refine lv_bipush (v := -6) hx hb dX4_storm_59 (by decide +kernel) ?_
            obtain ⟨a_32, ha_32, hf⟩ := bd_e hf
            refine Ct.callV (As := [.int (-6 : Int32)]) (rest := [.long (4000000000000000000 : Int64)]) (st1 := [.int a_32.1, .long (4000000000000000000 : Int64)]) (c_X4_refused l D cI A n t k g w z q (-6 : Int32) a_32 ha_32) hx hb hml hown hts (cwV 1 hts gX4_storm_X4_refused rfl rfl rfl hd_X4_refused ⟨Nat.le_of_ble_eq_true rfl, Nat.le_of_ble_eq_true rfl⟩) (va_recv hK hP (ci := 4) (q0 := 0) rfl cX_at0) (Ln.id rfl) hA hK hP hD hS rfl hl.1 rfl rfl (Nat.le_of_ble_eq_true rfl) dX4_storm_61 (fun H locs hP hD hS => ?_)
            replace hP : va_P D vwCl (cX cI A n t k g w z a_32.2) H := hP
            replace hD : va_D AA (cX cI A n t k g w z a_32.2) := hD
            refine lv_i2l (v := (a_32.1).toInt64) hx hb dX4_storm_64 rfl ?_
            refine lv_lsub hx hb dX4_storm_65 ?_
            exact hend (((4000000000000000000 : Int64) - (a_32.1).toInt64), t, a_32.2) H locs _ _ hf hP hS dX4_storm_66
      · replace hf := if_f c_5 hf
        refine lv_ldc2 (v := 4000000000000000000) hx hb hown kc194 dX4_storm_31 ?_
        refine lv_aload_n hx hb dX4_storm_34 rfl (lv_at hl 0 rfl) ?_
        refine lv_bipush (v := -4) hx hb dX4_storm_35 (by decide +kernel) ?_
        obtain ⟨a_33, ha_33, hf⟩ := bd_e hf
        refine Ct.callV (As := [.int (-4 : Int32)]) (rest := [.long (4000000000000000000 : Int64)]) (st1 := [.int a_33.1, .long (4000000000000000000 : Int64)]) (c_X4_refused l D cI A n t k g w z q (-4 : Int32) a_33 ha_33) hx hb hml hown hts (cwV 1 hts gX4_storm_X4_refused rfl rfl rfl hd_X4_refused ⟨Nat.le_of_ble_eq_true rfl, Nat.le_of_ble_eq_true rfl⟩) (va_recv hK hP (ci := 4) (q0 := 0) rfl cX_at0) (Ln.id rfl) hA hK hP hD hS rfl hl.1 rfl rfl (Nat.le_of_ble_eq_true rfl) dX4_storm_37 (fun H locs hP hD hS => ?_)
        replace hP : va_P D vwCl (cX cI A n t k g w z a_33.2) H := hP
        replace hD : va_D AA (cX cI A n t k g w z a_33.2) := hD
        refine lv_i2l (v := (a_33.1).toInt64) hx hb dX4_storm_40 rfl ?_
        refine lv_lsub hx hb dX4_storm_41 ?_
        exact hend (((4000000000000000000 : Int64) - (a_33.1).toInt64), t, a_33.2) H locs _ _ hf hP hS dX4_storm_42
  · replace hf := if_t c_2 hf
    refine lv_ldc2 (v := 4000000000000000000) hx hb hown kc194 dX4_storm_11 ?_
    refine lv_aload_n hx hb dX4_storm_14 rfl (lv_at hl 0 rfl) ?_
    refine lv_iconst (v := -1) hx hb dX4_storm_15 (by decide) ?_
    obtain ⟨a_34, ha_34, hf⟩ := bd_e hf
    refine Ct.callV (As := [.int (-1 : Int32)]) (rest := [.long (4000000000000000000 : Int64)]) (st1 := [.int a_34.1, .long (4000000000000000000 : Int64)]) (c_X4_refused l D cI A n t k g w z q (-1 : Int32) a_34 ha_34) hx hb hml hown hts (cwV 1 hts gX4_storm_X4_refused rfl rfl rfl hd_X4_refused ⟨Nat.le_of_ble_eq_true rfl, Nat.le_of_ble_eq_true rfl⟩) (va_recv hK hP (ci := 4) (q0 := 0) rfl cX_at0) (Ln.id rfl) hA hK hP hD hS rfl hl.1 rfl rfl (Nat.le_of_ble_eq_true rfl) dX4_storm_16 (fun H locs hP hD hS => ?_)
    replace hP : va_P D vwCl (cX cI A n t k g w z a_34.2) H := hP
    replace hD : va_D AA (cX cI A n t k g w z a_34.2) := hD
    refine lv_i2l (v := (a_34.1).toInt64) hx hb dX4_storm_19 rfl ?_
    refine lv_lsub hx hb dX4_storm_20 ?_
    exact hend (((4000000000000000000 : Int64) - (a_34.1).toInt64), t, a_34.2) H locs _ _ hf hP hS dX4_storm_21

def f_X4_mean (n : St) (t : St) (k : St) (g : St) (w : St) (z : St) (q : St) (p1 : Int32) : Option (Int64 × St) := (if p1 = 0 then (bd (f_X0_allSins n) fun a_2 => (bd (f_X4_fraction (a_2).toInt64 ((if (1 : Int32) < (n 16 1) then (n 16 1) else (1 : Int32))).toInt64 p1) fun a_3 => (some (a_3, q)))) else (if p1 = (1 : Int32) then (bd (f_X0_allSins n) fun a_5 => (bd (f_X4_fraction (a_5).toInt64 ((if (1 : Int32) < (n 16 1) then (n 16 1) else (1 : Int32))).toInt64 p1) fun a_6 => (some (a_6, q)))) else (bd (f_X4_refused n t k g w z q (-2 : Int32)) fun a_7 => (some (((4000000000000000000 : Int64) - (a_7.1).toInt64), a_7.2)))))
def rm_X4_mean : Room := { frames := 2, cells := 0, slots := 0, locals := 52 }
theorem hd_X4_mean : yX4_mean.cls = RX4 ∧ yX4_mean.cls ≠ "java/lang/invoke/MethodHandle" ∧ yX4_mean.cls ≠ "java/lang/invoke/VarHandle" ∧ (parseMethodDescriptor yX4_mean.desc).map (fun d => d.parameters.length) = some 1 := by decide +kernel
set_option maxRecDepth 100000 in
set_option maxHeartbeats 4000000 in
theorem c_X4_mean (l : Launch) (D : va_G) (cI : ClassId) (A : Nat → Nat) (n : St) (t : St) (k : St) (g : St) (w : St) (z : St) (q : St) (p1 : Int32) (r : Int64 × St) (hf : f_X4_mean n t k g w z q p1 = some r) : Ct l yX4_mean wsX4_mean rm_X4_mean D cI (cX cI A n t k g w z q) (cX cI A n t k g w z r.2) [.ref (A 0), .int p1] (some (.long r.1)) := by
  unfold f_X4_mean at hf
  refine Ct.ofL (cc := cX4_mean) (maxL := 2) (by decide +kernel) rfl (Nat.le_of_ble_eq_true rfl) ?_
  intro p e s m args below meth c AA Q H locs ls hx hb hml hown hts hA hK hP hD hS hl hend0
  have hend : ∀ (r1 : Int64 × St) (H : Heap) (locs : List Loc) (pc : Nat) (ls : Array Slot), some r1 = some r → va_P D vwCl (cX cI A n t k g w z r1.2) H → va_S AA s.heap H locs → decode cX4_mean pc = .ok (.lreturn, 1) → W p l e rm_X4_mean s m args below meth c H locs 0 0 Q (F0 m pc ls [.long r1.1]) := by
    intro r1 H locs pc ls e1 hP hS hd; cases e1; exact hend0 H locs pc ls hP hS hd
  clear hend0
  have hw0 : ∀ w ∈ wsX00, w ∈ wsX4_mean := by decide +kernel
  have hw4 : ∀ w ∈ wsX40, w ∈ wsX4_mean := by decide +kernel
  have k10 := hts (.fieldLink RX4 10 "AnchorsForConfession" "now" "LAnchorsForConfession$Harbour;") (by decide +kernel)
  have k158 := hts (.fieldLink RX4 158 "AnchorsForConfession$Harbour" "men" "I") (by decide +kernel)
  have kc194 := hts (.constantLong RX4 194 4000000000000000000) (by decide +kernel)
  have km181 := hts (.methodLink RX4 181 Lib.Math.max.name) (by decide +kernel)
  have ks181 := hts (.static Lib.Math.max.name) (by decide +kernel)
  have ki181 := hts (.initialized "java/lang/Math") (by decide +kernel)
  have kk181 := hts (.code Lib.Math.max.name Lib.Math.max.code 2 (some .int)) (by decide +kernel)
  replace hl : lv_has ls 2 [(0, .ref (A 0)), (1, .int p1)] := hl
  refine lv_iload_n hx hb dX4_mean_0 rfl (lv_at hl 1 rfl) ?_
  refine lv_if_eq (tgt := 21) hx hb dX4_mean_1 (by decide) (fun c_1 => ?_) (fun c_1 => ?_)
  · replace hf := if_t c_1 hf
    refine lv_aload_n hx hb dX4_mean_21 rfl (lv_at hl 0 rfl) ?_
    refine va_get (D := D) (ci := 4) (v := .ref (A 1)) (C := RX4) (T := TX4) (N := 8) hx hb hts hw4 hown hK hP 0 cX_at0 rfl 0 (by decide) k10 (fun _ h9 => h9) rfl dX4_mean_22 ?_
    obtain ⟨a_2, ha_2, hf⟩ := bd_e hf
    refine Ct.callV (As := []) (rest := []) (st1 := [.int a_2]) (c_X0_allSins l D cI (fun j => A (1 + j)) n a_2 ha_2) hx hb hml hown hts (cwV 0 hts gX4_mean_X0_allSins rfl rfl rfl hd_X0_allSins ⟨Nat.le_of_ble_eq_true rfl, Nat.le_of_ble_eq_true rfl⟩) (va_recv hK hP (ci := 0) (q0 := 1) rfl cX_at1) ln_X_H_n hA hK hP hD hS rfl hl.1 rfl rfl (Nat.le_of_ble_eq_true rfl) dX4_mean_25 (fun H locs hP hD hS => ?_)
    refine lv_i2l (v := (a_2).toInt64) hx hb dX4_mean_28 rfl ?_
    refine lv_iconst (v := 1) hx hb dX4_mean_29 (by decide) ?_
    refine lv_aload_n hx hb dX4_mean_30 rfl (lv_at hl 0 rfl) ?_
    refine va_get (D := D) (ci := 4) (v := .ref (A 1)) (C := RX4) (T := TX4) (N := 8) hx hb hts hw4 hown hK hP 0 cX_at0 rfl 0 (by decide) k10 (fun _ h9 => h9) rfl dX4_mean_31 ?_
    refine va_get (D := D) (ci := 0) (v := .int (n 16 1)) (C := RX0) (T := TX0) (N := 12) hx hb hts hw0 hown hK hP 1 cX_at1 rfl 4 (by decide) k158 (fun _ h9 => h9) rfl dX4_mean_34 ?_
    refine va_mmax hx hb (by rw [hml]; exact hl.1.symm) hown km181 ks181 ki181 kk181 (Nat.le_of_ble_eq_true rfl) (Nat.le_of_ble_eq_true rfl) (Nat.zero_le _) (Nat.zero_le _) dX4_mean_37 ?_
    refine lv_i2l (v := ((if (1 : Int32) < (n 16 1) then (n 16 1) else (1 : Int32))).toInt64) hx hb dX4_mean_40 rfl ?_
    refine lv_iload_n hx hb dX4_mean_41 rfl (lv_at hl 1 rfl) ?_
    obtain ⟨a_3, ha_3, hf⟩ := bd_e hf
    refine Ct.callS (As := [.long (a_2).toInt64, .long ((if (1 : Int32) < (n 16 1) then (n 16 1) else (1 : Int32))).toInt64, .int p1]) (rest := []) (st1 := [.long a_3]) (c_X4_fraction l D cI  (a_2).toInt64 ((if (1 : Int32) < (n 16 1) then (n 16 1) else (1 : Int32))).toInt64 p1 a_3 ha_3) hx hb hml hown hts (va_cwS 3 hts gX4_mean_X4_fraction rfl rfl rfl hd_X4_fraction ⟨Nat.le_of_ble_eq_true rfl, Nat.le_of_ble_eq_true rfl⟩) Ln.nil hA hK hP hD hS rfl hl.1 rfl rfl (Nat.le_of_ble_eq_true rfl) dX4_mean_42 (fun H locs hP hD hS => ?_)
    exact hend (a_3, q) H locs _ _ hf hP hS dX4_mean_45
  · replace hf := if_f c_1 hf
    refine lv_iload_n hx hb dX4_mean_4 rfl (lv_at hl 1 rfl) ?_
    refine lv_iconst (v := 1) hx hb dX4_mean_5 (by decide) ?_
    refine lv_icmp_eq (tgt := 21) hx hb dX4_mean_6 (by decide) (fun c_4 => ?_) (fun c_4 => ?_)
    · replace hf := if_t c_4 hf
      refine lv_aload_n hx hb dX4_mean_21 rfl (lv_at hl 0 rfl) ?_
      refine va_get (D := D) (ci := 4) (v := .ref (A 1)) (C := RX4) (T := TX4) (N := 8) hx hb hts hw4 hown hK hP 0 cX_at0 rfl 0 (by decide) k10 (fun _ h9 => h9) rfl dX4_mean_22 ?_
      obtain ⟨a_5, ha_5, hf⟩ := bd_e hf
      refine Ct.callV (As := []) (rest := []) (st1 := [.int a_5]) (c_X0_allSins l D cI (fun j => A (1 + j)) n a_5 ha_5) hx hb hml hown hts (cwV 0 hts gX4_mean_X0_allSins rfl rfl rfl hd_X0_allSins ⟨Nat.le_of_ble_eq_true rfl, Nat.le_of_ble_eq_true rfl⟩) (va_recv hK hP (ci := 0) (q0 := 1) rfl cX_at1) ln_X_H_n hA hK hP hD hS rfl hl.1 rfl rfl (Nat.le_of_ble_eq_true rfl) dX4_mean_25 (fun H locs hP hD hS => ?_)
      refine lv_i2l (v := (a_5).toInt64) hx hb dX4_mean_28 rfl ?_
      refine lv_iconst (v := 1) hx hb dX4_mean_29 (by decide) ?_
      refine lv_aload_n hx hb dX4_mean_30 rfl (lv_at hl 0 rfl) ?_
      refine va_get (D := D) (ci := 4) (v := .ref (A 1)) (C := RX4) (T := TX4) (N := 8) hx hb hts hw4 hown hK hP 0 cX_at0 rfl 0 (by decide) k10 (fun _ h9 => h9) rfl dX4_mean_31 ?_
      refine va_get (D := D) (ci := 0) (v := .int (n 16 1)) (C := RX0) (T := TX0) (N := 12) hx hb hts hw0 hown hK hP 1 cX_at1 rfl 4 (by decide) k158 (fun _ h9 => h9) rfl dX4_mean_34 ?_
      refine va_mmax hx hb (by rw [hml]; exact hl.1.symm) hown km181 ks181 ki181 kk181 (Nat.le_of_ble_eq_true rfl) (Nat.le_of_ble_eq_true rfl) (Nat.zero_le _) (Nat.zero_le _) dX4_mean_37 ?_
      refine lv_i2l (v := ((if (1 : Int32) < (n 16 1) then (n 16 1) else (1 : Int32))).toInt64) hx hb dX4_mean_40 rfl ?_
      refine lv_iload_n hx hb dX4_mean_41 rfl (lv_at hl 1 rfl) ?_
      obtain ⟨a_6, ha_6, hf⟩ := bd_e hf
      refine Ct.callS (As := [.long (a_5).toInt64, .long ((if (1 : Int32) < (n 16 1) then (n 16 1) else (1 : Int32))).toInt64, .int p1]) (rest := []) (st1 := [.long a_6]) (c_X4_fraction l D cI  (a_5).toInt64 ((if (1 : Int32) < (n 16 1) then (n 16 1) else (1 : Int32))).toInt64 p1 a_6 ha_6) hx hb hml hown hts (va_cwS 3 hts gX4_mean_X4_fraction rfl rfl rfl hd_X4_fraction ⟨Nat.le_of_ble_eq_true rfl, Nat.le_of_ble_eq_true rfl⟩) Ln.nil hA hK hP hD hS rfl hl.1 rfl rfl (Nat.le_of_ble_eq_true rfl) dX4_mean_42 (fun H locs hP hD hS => ?_)
      exact hend (a_6, q) H locs _ _ hf hP hS dX4_mean_45
    · replace hf := if_f c_4 hf
      refine lv_ldc2 (v := 4000000000000000000) hx hb hown kc194 dX4_mean_9 ?_
      refine lv_aload_n hx hb dX4_mean_12 rfl (lv_at hl 0 rfl) ?_
      refine lv_bipush (v := -2) hx hb dX4_mean_13 (by decide +kernel) ?_
      obtain ⟨a_7, ha_7, hf⟩ := bd_e hf
      refine Ct.callV (As := [.int (-2 : Int32)]) (rest := [.long (4000000000000000000 : Int64)]) (st1 := [.int a_7.1, .long (4000000000000000000 : Int64)]) (c_X4_refused l D cI A n t k g w z q (-2 : Int32) a_7 ha_7) hx hb hml hown hts (cwV 1 hts gX4_mean_X4_refused rfl rfl rfl hd_X4_refused ⟨Nat.le_of_ble_eq_true rfl, Nat.le_of_ble_eq_true rfl⟩) (va_recv hK hP (ci := 4) (q0 := 0) rfl cX_at0) (Ln.id rfl) hA hK hP hD hS rfl hl.1 rfl rfl (Nat.le_of_ble_eq_true rfl) dX4_mean_15 (fun H locs hP hD hS => ?_)
      replace hP : va_P D vwCl (cX cI A n t k g w z a_7.2) H := hP
      replace hD : va_D AA (cX cI A n t k g w z a_7.2) := hD
      refine lv_i2l (v := (a_7.1).toInt64) hx hb dX4_mean_18 rfl ?_
      refine lv_lsub hx hb dX4_mean_19 ?_
      exact hend (((4000000000000000000 : Int64) - (a_7.1).toInt64), a_7.2) H locs _ _ hf hP hS dX4_mean_20

def f_X4_rowTellsWordOf (n : St) (t : St) (k : St) (g : St) (w : St) (z : St) (q : St) (p1 : Int32) : Option (Int32 × St) := fzp (bd (f_X0_canTell t p1) fun a_1 => (if a_1 = 0 then (some ((0 : Int32), t)) else (bd (f_X0_word t p1) fun a_3 => (bd (f_X3_firstNotLooseAsIn w a_3.2) fun a_4 => (if a_4 = (-9 : Int32) then (some ((1 : Int32), a_3.2)) else (some ((0 : Int32), a_3.2)))))))
def rm_X4_rowTellsWordOf : Room := { frames := 4, cells := 0, slots := 0, locals := 89 }
theorem hd_X4_rowTellsWordOf : yX4_rowTellsWordOf.cls = RX4 ∧ yX4_rowTellsWordOf.cls ≠ "java/lang/invoke/MethodHandle" ∧ yX4_rowTellsWordOf.cls ≠ "java/lang/invoke/VarHandle" ∧ (parseMethodDescriptor yX4_rowTellsWordOf.desc).map (fun d => d.parameters.length) = some 1 := by decide +kernel
set_option maxRecDepth 100000 in
set_option maxHeartbeats 4000000 in
theorem c_X4_rowTellsWordOf (l : Launch) (D : va_G) (cI : ClassId) (A : Nat → Nat) (n : St) (t : St) (k : St) (g : St) (w : St) (z : St) (q : St) (p1 : Int32) (r : Int32 × St) (hf : f_X4_rowTellsWordOf n t k g w z q p1 = some r) : Ct l yX4_rowTellsWordOf wsX4_rowTellsWordOf rm_X4_rowTellsWordOf D cI (cX cI A n t k g w z q) (cX cI A n r.2 k g w z q) [.ref (A 0), .int p1] (some (.int r.1)) := by
  unfold f_X4_rowTellsWordOf at hf
  obtain ⟨hz, hf⟩ := fzp_e hf
  refine Ct.ofZ hz (cc := cX4_rowTellsWordOf) (maxL := 2) (by decide +kernel) rfl (Nat.le_of_ble_eq_true rfl) ?_
  intro p e s m args below meth c AA Q H locs ls hx hb hml hown hts hA hK hP hD hS hl hend0
  have hend : ∀ (r1 : Int32 × St) (H : Heap) (locs : List Loc) (pc : Nat) (ls : Array Slot), some r1 = some r → va_P D vwCl (cX cI A n r1.2 k g w z q) H → va_S AA s.heap H locs → decode cX4_rowTellsWordOf pc = .ok (.ireturn, 1) → W p l e rm_X4_rowTellsWordOf s m args below meth c H locs 0 0 Q (F0 m pc ls [.int r1.1]) := by
    intro r1 H locs pc ls e1 hP hS hd; cases e1; exact hend0 H locs pc ls hP hS hd
  clear hend0
  have hw4 : ∀ w ∈ wsX40, w ∈ wsX4_rowTellsWordOf := by decide +kernel
  have k16 := hts (.fieldLink RX4 16 "AnchorsForConfession" "thought" "LAnchorsForConfession$Harbour;") (by decide +kernel)
  have k32 := hts (.fieldLink RX4 32 "AnchorsForConfession" "told" "LAnchorsForConfession$Row;") (by decide +kernel)
  replace hl : lv_has ls 2 [(0, .ref (A 0)), (1, .int p1)] := hl
  refine lv_aload_n hx hb dX4_rowTellsWordOf_0 rfl (lv_at hl 0 rfl) ?_
  refine va_get (D := D) (ci := 4) (v := .ref (A 10)) (C := RX4) (T := TX4) (N := 8) hx hb hts hw4 hown hK hP 0 cX_at0 rfl 1 (by decide) k16 (fun _ h9 => h9) rfl dX4_rowTellsWordOf_1 ?_
  refine lv_iload_n hx hb dX4_rowTellsWordOf_4 rfl (lv_at hl 1 rfl) ?_
  obtain ⟨a_1, ha_1, hf⟩ := bd_e hf
  refine Ct.callV (As := [.int p1]) (rest := []) (st1 := [.int a_1]) (c_X0_canTell l D cI (fun j => A (10 + j)) t p1 a_1 ha_1) hx hb hml hown hts (cwV 1 hts gX4_rowTellsWordOf_X0_canTell rfl rfl rfl hd_X0_canTell ⟨Nat.le_of_ble_eq_true rfl, Nat.le_of_ble_eq_true rfl⟩) (va_recv hK hP (ci := 0) (q0 := 10) rfl cX_at10) ln_X_H_t hA hK hP hD hS rfl hl.1 rfl rfl (Nat.le_of_ble_eq_true rfl) dX4_rowTellsWordOf_5 (fun H locs hP hD hS => ?_)
  refine lv_if_ne (tgt := 13) hx hb dX4_rowTellsWordOf_8 (by decide) (fun c_2 => ?_) (fun c_2 => ?_)
  · replace hf := if_f c_2 hf
    refine lv_aload_n hx hb dX4_rowTellsWordOf_13 rfl (lv_at hl 0 rfl) ?_
    refine va_get (D := D) (ci := 4) (v := .ref (A 10)) (C := RX4) (T := TX4) (N := 8) hx hb hts hw4 hown hK hP 0 cX_at0 rfl 1 (by decide) k16 (fun _ h9 => h9) rfl dX4_rowTellsWordOf_14 ?_
    refine lv_iload_n hx hb dX4_rowTellsWordOf_17 rfl (lv_at hl 1 rfl) ?_
    obtain ⟨a_3, ha_3, hf⟩ := bd_e hf
    refine Ct.callV (As := [.int p1]) (rest := []) (st1 := [.int a_3.1]) (c_X0_word l D cI (fun j => A (10 + j)) t p1 a_3 ha_3) hx hb hml hown hts (cwV 1 hts gX4_rowTellsWordOf_X0_word rfl rfl rfl hd_X0_word ⟨Nat.le_of_ble_eq_true rfl, Nat.le_of_ble_eq_true rfl⟩) (va_recv hK hP (ci := 0) (q0 := 10) rfl cX_at10) ln_X_H_t hA hK hP hD hS rfl hl.1 rfl rfl (Nat.le_of_ble_eq_true rfl) dX4_rowTellsWordOf_18 (fun H locs hP hD hS => ?_)
    replace hP : va_P D vwCl (cX cI A n a_3.2 k g w z q) H := hP
    replace hD : va_D AA (cX cI A n a_3.2 k g w z q) := hD
    refine lv_pop hx hb dX4_rowTellsWordOf_21 rfl ?_
    refine lv_aload_n hx hb dX4_rowTellsWordOf_22 rfl (lv_at hl 0 rfl) ?_
    refine va_get (D := D) (ci := 4) (v := .ref (A 30)) (C := RX4) (T := TX4) (N := 8) hx hb hts hw4 hown hK hP 0 cX_at0 rfl 4 (by decide) k32 (fun _ h9 => h9) rfl dX4_rowTellsWordOf_23 ?_
    refine lv_aload_n hx hb dX4_rowTellsWordOf_26 rfl (lv_at hl 0 rfl) ?_
    refine va_get (D := D) (ci := 4) (v := .ref (A 10)) (C := RX4) (T := TX4) (N := 8) hx hb hts hw4 hown hK hP 0 cX_at0 rfl 1 (by decide) k16 (fun _ h9 => h9) rfl dX4_rowTellsWordOf_27 ?_
    obtain ⟨a_4, ha_4, hf⟩ := bd_e hf
    refine Ct.callV (As := [.ref (A 10)]) (rest := []) (st1 := [.int a_4]) (c_X3_firstNotLooseAsIn l D cI (fun j => A (30 + j)) (fun j => A (10 + j)) w a_3.2 a_4 ha_4) hx hb hml hown hts (cwV 1 hts gX4_rowTellsWordOf_X3_firstNotLooseAsIn rfl rfl rfl hd_X3_firstNotLooseAsIn ⟨Nat.le_of_ble_eq_true rfl, Nat.le_of_ble_eq_true rfl⟩) (va_recv hK hP (ci := 3) (q0 := 30) rfl cX_at30) ln_X_RH_t hA hK hP hD hS rfl hl.1 rfl rfl (Nat.le_of_ble_eq_true rfl) dX4_rowTellsWordOf_30 (fun H locs hP hD hS => ?_)
    refine lv_bipush (v := -9) hx hb dX4_rowTellsWordOf_33 (by decide +kernel) ?_
    refine lv_icmp_ne (tgt := 42) hx hb dX4_rowTellsWordOf_35 (by decide) (fun c_5 => ?_) (fun c_5 => ?_)
    · replace hf := if_f c_5 hf
      refine lv_iconst (v := 0) hx hb dX4_rowTellsWordOf_42 (by decide) ?_
      exact hend ((0 : Int32), a_3.2) H locs _ _ hf hP hS dX4_rowTellsWordOf_43
    · replace hf := if_t c_5 hf
      refine lv_iconst (v := 1) hx hb dX4_rowTellsWordOf_38 (by decide) ?_
      refine lv_goto (tgt := 43) hx hb dX4_rowTellsWordOf_39 (by decide) ?_
      exact hend ((1 : Int32), a_3.2) H locs _ _ hf hP hS dX4_rowTellsWordOf_43
  · replace hf := if_t c_2 hf
    refine lv_iconst (v := 0) hx hb dX4_rowTellsWordOf_11 (by decide) ?_
    exact hend ((0 : Int32), t) H locs _ _ hf hP hS dX4_rowTellsWordOf_12

def f_X4_whoTold (n : St) (t : St) (k : St) (g : St) (w : St) (z : St) (q : St) : Option (Int32 × St) := (lp (fun (nx4 : (Int32 × Int32 × St) → Option (Int32 × St)) (q4 : Int32 × Int32 × St) => (if (n 16 1) ≤ q4.2.1 then (some (q4.1, q4.2.2)) else (bd (f_X0_copyFrom q4.2.2 n) fun a_2 => (bd (f_X4_rowTellsWordOf n a_2 k g w z q q4.2.1) fun a_3 => (if a_3.1 = 0 then (nm (q4.2.1 + (1 : Int32)) fun v_5 => (nx4 (q4.1, v_5, a_3.2))) else (nm (q4.1 ||| ((1 : Int32) <<< (q4.2.1 &&& 31))) fun v_6 => (nm (q4.2.1 + (1 : Int32)) fun v_7 => (nx4 (v_6, v_7, a_3.2))))))))) 1000 ((0 : Int32), (0 : Int32), t))
def rm_X4_whoTold : Room := { frames := 5, cells := 0, slots := 0, locals := 110 }
theorem hd_X4_whoTold : yX4_whoTold.cls = RX4 ∧ yX4_whoTold.cls ≠ "java/lang/invoke/MethodHandle" ∧ yX4_whoTold.cls ≠ "java/lang/invoke/VarHandle" ∧ (parseMethodDescriptor yX4_whoTold.desc).map (fun d => d.parameters.length) = some 0 := by decide +kernel
set_option maxRecDepth 100000 in
set_option maxHeartbeats 4000000 in
theorem c_X4_whoTold (l : Launch) (D : va_G) (cI : ClassId) (A : Nat → Nat) (n : St) (t : St) (k : St) (g : St) (w : St) (z : St) (q : St) (r : Int32 × St) (hf : f_X4_whoTold n t k g w z q = some r) : Ct l yX4_whoTold wsX4_whoTold rm_X4_whoTold D cI (cX cI A n t k g w z q) (cX cI A n r.2 k g w z q) [.ref (A 0)] (some (.int r.1)) := by
  unfold f_X4_whoTold at hf
  refine Ct.ofI (cc := cX4_whoTold) (maxL := 3) (by decide +kernel) rfl (Nat.le_of_ble_eq_true rfl) ?_
  intro p e s m args below meth c AA Q H locs ls hx hb hml hown hts hA hK hP hD hS hl hend0
  have hend : ∀ (r1 : Int32 × St) (H : Heap) (locs : List Loc) (pc : Nat) (ls : Array Slot), some r1 = some r → va_P D vwCl (cX cI A n r1.2 k g w z q) H → va_S AA s.heap H locs → decode cX4_whoTold pc = .ok (.ireturn, 1) → W p l e rm_X4_whoTold s m args below meth c H locs 0 0 Q (F0 m pc ls [.int r1.1]) := by
    intro r1 H locs pc ls e1 hP hS hd; cases e1; exact hend0 H locs pc ls hP hS hd
  clear hend0
  have hw0 : ∀ w ∈ wsX00, w ∈ wsX4_whoTold := by decide +kernel
  have hw4 : ∀ w ∈ wsX40, w ∈ wsX4_whoTold := by decide +kernel
  have k10 := hts (.fieldLink RX4 10 "AnchorsForConfession" "now" "LAnchorsForConfession$Harbour;") (by decide +kernel)
  have k16 := hts (.fieldLink RX4 16 "AnchorsForConfession" "thought" "LAnchorsForConfession$Harbour;") (by decide +kernel)
  have k158 := hts (.fieldLink RX4 158 "AnchorsForConfession$Harbour" "men" "I") (by decide +kernel)
  replace hl : lv_has ls 3 [(0, .ref (A 0))] := hl
  refine lv_iconst (v := 0) hx hb dX4_whoTold_0 (by decide) ?_
  refine lv_istore_n (lv' := [(1, .int (0 : Int32)), (0, .ref (A 0))]) hx hb dX4_whoTold_1 rfl hl (by decide) rfl (fun ls hl => ?_)
  refine lv_iconst (v := 0) hx hb dX4_whoTold_2 (by decide) ?_
  refine lv_istore_n (lv' := [(2, .int (0 : Int32)), (1, .int (0 : Int32)), (0, .ref (A 0))]) hx hb dX4_whoTold_3 rfl hl (by decide) rfl (fun ls hl => ?_)
  refine lp_ind (P := fun (q4 : Int32 × Int32 × St) => ∀ (H : Heap) (locs : List Loc) (ls : Array Slot), va_P D vwCl (cX cI A n q4.2.2 k g w z q) H → va_D AA (cX cI A n q4.2.2 k g w z q) → va_S AA s.heap H locs → lv_has ls 3 [(0, .ref (A 0)), (1, .int q4.1), (2, .int q4.2.1)] → W p l e rm_X4_whoTold s m args below meth c H locs 0 0 Q (F0 m 4 ls [])) hf ?_ H locs ls hP hD hS (lv_sub hl [2, 1, 0] rfl)
  clear hf hP hD hS hl
  intro nx4 ih4 q4 hf H locs ls hP hD hS hl
  refine lv_iload_n hx hb dX4_whoTold_4 rfl (lv_at hl 2 rfl) ?_
  refine lv_aload_n hx hb dX4_whoTold_5 rfl (lv_at hl 0 rfl) ?_
  refine va_get (D := D) (ci := 4) (v := .ref (A 1)) (C := RX4) (T := TX4) (N := 8) hx hb hts hw4 hown hK hP 0 cX_at0 rfl 0 (by decide) k10 (fun _ h9 => h9) rfl dX4_whoTold_6 ?_
  refine va_get (D := D) (ci := 0) (v := .int (n 16 1)) (C := RX0) (T := TX0) (N := 12) hx hb hts hw0 hown hK hP 1 cX_at1 rfl 4 (by decide) k158 (fun _ h9 => h9) rfl dX4_whoTold_9 ?_
  refine lv_icmp_ge (tgt := 46) hx hb dX4_whoTold_12 (by decide) (fun c_1 => ?_) (fun c_1 => ?_)
  · replace hf := if_t c_1 hf
    refine lv_iload_n hx hb dX4_whoTold_46 rfl (lv_at hl 1 rfl) ?_
    exact hend (q4.1, q4.2.2) H locs _ _ hf hP hS dX4_whoTold_47
  · replace hf := if_f c_1 hf
    refine lv_aload_n hx hb dX4_whoTold_15 rfl (lv_at hl 0 rfl) ?_
    refine va_get (D := D) (ci := 4) (v := .ref (A 10)) (C := RX4) (T := TX4) (N := 8) hx hb hts hw4 hown hK hP 0 cX_at0 rfl 1 (by decide) k16 (fun _ h9 => h9) rfl dX4_whoTold_16 ?_
    refine lv_aload_n hx hb dX4_whoTold_19 rfl (lv_at hl 0 rfl) ?_
    refine va_get (D := D) (ci := 4) (v := .ref (A 1)) (C := RX4) (T := TX4) (N := 8) hx hb hts hw4 hown hK hP 0 cX_at0 rfl 0 (by decide) k10 (fun _ h9 => h9) rfl dX4_whoTold_20 ?_
    obtain ⟨a_2, ha_2, hf⟩ := bd_e hf
    refine Ct.callV (As := [.ref (A 1)]) (rest := []) (st1 := []) (c_X0_copyFrom l D cI (fun j => A (10 + j)) (fun j => A (1 + j)) q4.2.2 n a_2 ha_2) hx hb hml hown hts (cwV 1 hts gX4_whoTold_X0_copyFrom rfl rfl rfl hd_X0_copyFrom ⟨Nat.le_of_ble_eq_true rfl, Nat.le_of_ble_eq_true rfl⟩) (va_recv hK hP (ci := 0) (q0 := 10) rfl cX_at10) ln_X_HH_tn hA hK hP hD hS rfl hl.1 rfl rfl (Nat.le_of_ble_eq_true rfl) dX4_whoTold_23 (fun H locs hP hD hS => ?_)
    replace hP : va_P D vwCl (cX cI A n a_2 k g w z q) H := hP
    replace hD : va_D AA (cX cI A n a_2 k g w z q) := hD
    refine lv_aload_n hx hb dX4_whoTold_26 rfl (lv_at hl 0 rfl) ?_
    refine lv_iload_n hx hb dX4_whoTold_27 rfl (lv_at hl 2 rfl) ?_
    obtain ⟨a_3, ha_3, hf⟩ := bd_e hf
    refine Ct.callV (As := [.int q4.2.1]) (rest := []) (st1 := [.int a_3.1]) (c_X4_rowTellsWordOf l D cI A n a_2 k g w z q q4.2.1 a_3 ha_3) hx hb hml hown hts (cwV 1 hts gX4_whoTold_X4_rowTellsWordOf rfl rfl rfl hd_X4_rowTellsWordOf ⟨Nat.le_of_ble_eq_true rfl, Nat.le_of_ble_eq_true rfl⟩) (va_recv hK hP (ci := 4) (q0 := 0) rfl cX_at0) (Ln.id rfl) hA hK hP hD hS rfl hl.1 rfl rfl (Nat.le_of_ble_eq_true rfl) dX4_whoTold_28 (fun H locs hP hD hS => ?_)
    replace hP : va_P D vwCl (cX cI A n a_3.2 k g w z q) H := hP
    replace hD : va_D AA (cX cI A n a_3.2 k g w z q) := hD
    refine lv_if_eq (tgt := 40) hx hb dX4_whoTold_31 (by decide) (fun c_4 => ?_) (fun c_4 => ?_)
    · replace hf := if_t c_4 hf
      obtain ⟨v_5, ev_5, hf⟩ := nm_e hf
      refine lv_iinc (v := v_5) (lv' := [(2, .int v_5), (0, .ref (A 0)), (1, .int q4.1)]) hx hb dX4_whoTold_40 hl (k := 2) rfl (by rw [ev_5]; rfl) (by decide) rfl (fun ls hl => ?_)
      refine lv_goto (tgt := 4) hx hb dX4_whoTold_43 (by decide) ?_
      exact ih4 (q4.1, v_5, a_3.2) hf H locs ls hP hD hS (lv_sub hl [1, 2, 0] rfl)
    · replace hf := if_f c_4 hf
      refine lv_iload_n hx hb dX4_whoTold_34 rfl (lv_at hl 1 rfl) ?_
      refine lv_iconst (v := 1) hx hb dX4_whoTold_35 (by decide) ?_
      refine lv_iload_n hx hb dX4_whoTold_36 rfl (lv_at hl 2 rfl) ?_
      refine lv_ishl hx hb dX4_whoTold_37 ?_
      refine lv_ior hx hb dX4_whoTold_38 ?_
      refine lv_topi (fun v_6 ev_6 => ?_)
      replace hf := nm_at ev_6 hf
      refine lv_istore_n (lv' := [(1, .int v_6), (0, .ref (A 0)), (2, .int q4.2.1)]) hx hb dX4_whoTold_39 rfl hl (by decide) rfl (fun ls hl => ?_)
      obtain ⟨v_7, ev_7, hf⟩ := nm_e hf
      refine lv_iinc (v := v_7) (lv' := [(2, .int v_7), (1, .int v_6), (0, .ref (A 0))]) hx hb dX4_whoTold_40 hl (k := 2) rfl (by rw [ev_7]; rfl) (by decide) rfl (fun ls hl => ?_)
      refine lv_goto (tgt := 4) hx hb dX4_whoTold_43 (by decide) ?_
      exact ih4 (v_6, v_7, a_3.2) hf H locs ls hP hD hS (lv_sub hl [2, 1, 0] rfl)

def f_X4_whatIs (n : St) (t : St) (k : St) (g : St) (w : St) (z : St) (q : St) (p1 : Int32) (p2 : Int32) : Option (Int32 × St × St) := (bd (f_X0_hasMan n p1) fun a_1 => (if a_1 = 0 then (bd (f_X4_refused n t k g w z q (-1 : Int32)) fun a_76 => (some (a_76.1, t, a_76.2))) else (if p2 = 0 then (lp (fun (nx38 : (Int32 × Int32 × St) → Option (Int32 × St × St)) (q38 : Int32 × Int32 × St) => (if p2 = 0 then (if (6 : Int32) ≤ q38.2.1 then (some (q38.1, q38.2.2, q)) else (bd (f_X0_copyFrom q38.2.2 n) fun a_23 => (if p2 = 0 then (gi p1 8 (nm (su a_23 4 (p1).toNatClampNeg q38.2.1) fun h_33 => (bd (f_X4_rowTellsWordOf n h_33 k g w z q p1) fun a_34 => (if a_34.1 = 0 then (nm (q38.2.1 + (1 : Int32)) fun v_36 => (nx38 (q38.1, v_36, a_34.2))) else (nm (q38.1 ||| ((1 : Int32) <<< (q38.2.1 &&& 31))) fun v_37 => (nm (q38.2.1 + (1 : Int32)) fun v_38 => (nx38 (v_37, v_38, a_34.2)))))))) else (gi p1 8 (nm (su a_23 5 (p1).toNatClampNeg q38.2.1) fun h_26 => (bd (f_X4_rowTellsWordOf n h_26 k g w z q p1) fun a_27 => (if a_27.1 = 0 then (nm (q38.2.1 + (1 : Int32)) fun v_29 => (nx38 (q38.1, v_29, a_27.2))) else (nm (q38.1 ||| ((1 : Int32) <<< (q38.2.1 &&& 31))) fun v_30 => (nm (q38.2.1 + (1 : Int32)) fun v_31 => (nx38 (v_30, v_31, a_27.2))))))))))) else (if (10 : Int32) ≤ q38.2.1 then (some (q38.1, q38.2.2, q)) else (bd (f_X0_copyFrom q38.2.2 n) fun a_6 => (if p2 = 0 then (gi p1 8 (nm (su a_6 4 (p1).toNatClampNeg q38.2.1) fun h_16 => (bd (f_X4_rowTellsWordOf n h_16 k g w z q p1) fun a_17 => (if a_17.1 = 0 then (nm (q38.2.1 + (1 : Int32)) fun v_19 => (nx38 (q38.1, v_19, a_17.2))) else (nm (q38.1 ||| ((1 : Int32) <<< (q38.2.1 &&& 31))) fun v_20 => (nm (q38.2.1 + (1 : Int32)) fun v_21 => (nx38 (v_20, v_21, a_17.2)))))))) else (gi p1 8 (nm (su a_6 5 (p1).toNatClampNeg q38.2.1) fun h_9 => (bd (f_X4_rowTellsWordOf n h_9 k g w z q p1) fun a_10 => (if a_10.1 = 0 then (nm (q38.2.1 + (1 : Int32)) fun v_12 => (nx38 (q38.1, v_12, a_10.2))) else (nm (q38.1 ||| ((1 : Int32) <<< (q38.2.1 &&& 31))) fun v_13 => (nm (q38.2.1 + (1 : Int32)) fun v_14 => (nx38 (v_13, v_14, a_10.2))))))))))))) 1000 ((0 : Int32), (0 : Int32), t)) else (if p2 = (1 : Int32) then (lp (fun (nx38 : (Int32 × Int32 × St) → Option (Int32 × St × St)) (q38 : Int32 × Int32 × St) => (if p2 = 0 then (if (6 : Int32) ≤ q38.2.1 then (some (q38.1, q38.2.2, q)) else (bd (f_X0_copyFrom q38.2.2 n) fun a_59 => (if p2 = 0 then (gi p1 8 (nm (su a_59 4 (p1).toNatClampNeg q38.2.1) fun h_69 => (bd (f_X4_rowTellsWordOf n h_69 k g w z q p1) fun a_70 => (if a_70.1 = 0 then (nm (q38.2.1 + (1 : Int32)) fun v_72 => (nx38 (q38.1, v_72, a_70.2))) else (nm (q38.1 ||| ((1 : Int32) <<< (q38.2.1 &&& 31))) fun v_73 => (nm (q38.2.1 + (1 : Int32)) fun v_74 => (nx38 (v_73, v_74, a_70.2)))))))) else (gi p1 8 (nm (su a_59 5 (p1).toNatClampNeg q38.2.1) fun h_62 => (bd (f_X4_rowTellsWordOf n h_62 k g w z q p1) fun a_63 => (if a_63.1 = 0 then (nm (q38.2.1 + (1 : Int32)) fun v_65 => (nx38 (q38.1, v_65, a_63.2))) else (nm (q38.1 ||| ((1 : Int32) <<< (q38.2.1 &&& 31))) fun v_66 => (nm (q38.2.1 + (1 : Int32)) fun v_67 => (nx38 (v_66, v_67, a_63.2))))))))))) else (if (10 : Int32) ≤ q38.2.1 then (some (q38.1, q38.2.2, q)) else (bd (f_X0_copyFrom q38.2.2 n) fun a_42 => (if p2 = 0 then (gi p1 8 (nm (su a_42 4 (p1).toNatClampNeg q38.2.1) fun h_52 => (bd (f_X4_rowTellsWordOf n h_52 k g w z q p1) fun a_53 => (if a_53.1 = 0 then (nm (q38.2.1 + (1 : Int32)) fun v_55 => (nx38 (q38.1, v_55, a_53.2))) else (nm (q38.1 ||| ((1 : Int32) <<< (q38.2.1 &&& 31))) fun v_56 => (nm (q38.2.1 + (1 : Int32)) fun v_57 => (nx38 (v_56, v_57, a_53.2)))))))) else (gi p1 8 (nm (su a_42 5 (p1).toNatClampNeg q38.2.1) fun h_45 => (bd (f_X4_rowTellsWordOf n h_45 k g w z q p1) fun a_46 => (if a_46.1 = 0 then (nm (q38.2.1 + (1 : Int32)) fun v_48 => (nx38 (q38.1, v_48, a_46.2))) else (nm (q38.1 ||| ((1 : Int32) <<< (q38.2.1 &&& 31))) fun v_49 => (nm (q38.2.1 + (1 : Int32)) fun v_50 => (nx38 (v_49, v_50, a_46.2))))))))))))) 1000 ((0 : Int32), (0 : Int32), t)) else (bd (f_X4_refused n t k g w z q (-2 : Int32)) fun a_75 => (some (a_75.1, t, a_75.2)))))))
def rm_X4_whatIs : Room := { frames := 5, cells := 0, slots := 0, locals := 110 }
theorem hd_X4_whatIs : yX4_whatIs.cls = RX4 ∧ yX4_whatIs.cls ≠ "java/lang/invoke/MethodHandle" ∧ yX4_whatIs.cls ≠ "java/lang/invoke/VarHandle" ∧ (parseMethodDescriptor yX4_whatIs.desc).map (fun d => d.parameters.length) = some 2 := by decide +kernel
set_option maxRecDepth 100000 in
set_option maxHeartbeats 4000000 in
theorem c_X4_whatIs (l : Launch) (D : va_G) (cI : ClassId) (A : Nat → Nat) (n : St) (t : St) (k : St) (g : St) (w : St) (z : St) (q : St) (p1 : Int32) (p2 : Int32) (r : Int32 × St × St) (hf : f_X4_whatIs n t k g w z q p1 p2 = some r) : Ct l yX4_whatIs wsX4_whatIs rm_X4_whatIs D cI (cX cI A n t k g w z q) (cX cI A n r.2.1 k g w z r.2.2) [.ref (A 0), .int p1, .int p2] (some (.int r.1)) := by
  unfold f_X4_whatIs at hf
  refine Ct.ofI (cc := cX4_whatIs) (maxL := 5) (by decide +kernel) rfl (Nat.le_of_ble_eq_true rfl) ?_
  intro p e s m args below meth c AA Q H locs ls hx hb hml hown hts hA hK hP hD hS hl hend0
  have hend : ∀ (r1 : Int32 × St × St) (H : Heap) (locs : List Loc) (pc : Nat) (ls : Array Slot), some r1 = some r → va_P D vwCl (cX cI A n r1.2.1 k g w z r1.2.2) H → va_S AA s.heap H locs → decode cX4_whatIs pc = .ok (.ireturn, 1) → W p l e rm_X4_whatIs s m args below meth c H locs 0 0 Q (F0 m pc ls [.int r1.1]) := by
    intro r1 H locs pc ls e1 hP hS hd; cases e1; exact hend0 H locs pc ls hP hS hd
  clear hend0
  have hw0 : ∀ w ∈ wsX00, w ∈ wsX4_whatIs := by decide +kernel
  have hw4 : ∀ w ∈ wsX40, w ∈ wsX4_whatIs := by decide +kernel
  have k10 := hts (.fieldLink RX4 10 "AnchorsForConfession" "now" "LAnchorsForConfession$Harbour;") (by decide +kernel)
  have k16 := hts (.fieldLink RX4 16 "AnchorsForConfession" "thought" "LAnchorsForConfession$Harbour;") (by decide +kernel)
  have k95 := hts (.fieldLink RX4 95 "AnchorsForConfession$Harbour" "kind" "[I") (by decide +kernel)
  have k98 := hts (.fieldLink RX4 98 "AnchorsForConfession$Harbour" "figure" "[I") (by decide +kernel)
  replace hl : lv_has ls 5 [(0, .ref (A 0)), (1, .int p1), (2, .int p2)] := hl
  refine lv_aload_n hx hb dX4_whatIs_0 rfl (lv_at hl 0 rfl) ?_
  refine va_get (D := D) (ci := 4) (v := .ref (A 1)) (C := RX4) (T := TX4) (N := 8) hx hb hts hw4 hown hK hP 0 cX_at0 rfl 0 (by decide) k10 (fun _ h9 => h9) rfl dX4_whatIs_1 ?_
  refine lv_iload_n hx hb dX4_whatIs_4 rfl (lv_at hl 1 rfl) ?_
  obtain ⟨a_1, ha_1, hf⟩ := bd_e hf
  refine Ct.callV (As := [.int p1]) (rest := []) (st1 := [.int a_1]) (c_X0_hasMan l D cI (fun j => A (1 + j)) n p1 a_1 ha_1) hx hb hml hown hts (cwV 1 hts gX4_whatIs_X0_hasMan rfl rfl rfl hd_X0_hasMan ⟨Nat.le_of_ble_eq_true rfl, Nat.le_of_ble_eq_true rfl⟩) (va_recv hK hP (ci := 0) (q0 := 1) rfl cX_at1) ln_X_H_n hA hK hP hD hS rfl hl.1 rfl rfl (Nat.le_of_ble_eq_true rfl) dX4_whatIs_5 (fun H locs hP hD hS => ?_)
  refine lv_if_ne (tgt := 17) hx hb dX4_whatIs_8 (by decide) (fun c_2 => ?_) (fun c_2 => ?_)
  · replace hf := if_f c_2 hf
    refine lv_iload_n hx hb dX4_whatIs_17 rfl (lv_at hl 2 rfl) ?_
    refine lv_if_eq (tgt := 33) hx hb dX4_whatIs_18 (by decide) (fun c_3 => ?_) (fun c_3 => ?_)
    · replace hf := if_t c_3 hf
      refine lv_iconst (v := 0) hx hb dX4_whatIs_33 (by decide) ?_
      refine lv_istore_n (lv' := [(3, .int (0 : Int32)), (0, .ref (A 0)), (1, .int p1), (2, .int p2)]) hx hb dX4_whatIs_34 rfl hl (by decide) rfl (fun ls hl => ?_)
      refine lv_iconst (v := 0) hx hb dX4_whatIs_35 (by decide) ?_
      refine lv_istore (lv' := [(4, .int (0 : Int32)), (3, .int (0 : Int32)), (0, .ref (A 0)), (1, .int p1), (2, .int p2)]) hx hb dX4_whatIs_36 hl (by decide) rfl (fun ls hl => ?_)
      refine lp_ind (P := fun (q38 : Int32 × Int32 × St) => ∀ (H : Heap) (locs : List Loc) (ls : Array Slot), va_P D vwCl (cX cI A n q38.2.2 k g w z q) H → va_D AA (cX cI A n q38.2.2 k g w z q) → va_S AA s.heap H locs → lv_has ls 5 [(0, .ref (A 0)), (1, .int p1), (2, .int p2), (3, .int q38.1), (4, .int q38.2.1)] → W p l e rm_X4_whatIs s m args below meth c H locs 0 0 Q (F0 m 38 ls [])) hf ?_ H locs ls hP hD hS (lv_sub hl [2, 3, 4, 1, 0] rfl)
      clear hf hP hD hS hl
      intro nx38 ih38 q38 hf H locs ls hP hD hS hl
      refine lv_iload hx hb dX4_whatIs_38 (lv_at hl 4 rfl) ?_
      refine lv_iload_n hx hb dX4_whatIs_40 rfl (lv_at hl 2 rfl) ?_
      refine lv_if_ne (tgt := 49) hx hb dX4_whatIs_41 (by decide) (fun c_4 => ?_) (fun c_4 => ?_)
      · replace hf := if_f c_4 hf
        refine lv_bipush (v := 10) hx hb dX4_whatIs_49 (by decide +kernel) ?_
        refine lv_icmp_ge (tgt := 115) hx hb dX4_whatIs_51 (by decide) (fun c_5 => ?_) (fun c_5 => ?_)
        · replace hf := if_t c_5 hf
          refine lv_iload_n hx hb dX4_whatIs_115 rfl (lv_at hl 3 rfl) ?_
          exact hend (q38.1, q38.2.2, q) H locs _ _ hf hP hS dX4_whatIs_116
        · replace hf := if_f c_5 hf
          refine lv_aload_n hx hb dX4_whatIs_54 rfl (lv_at hl 0 rfl) ?_
          refine va_get (D := D) (ci := 4) (v := .ref (A 10)) (C := RX4) (T := TX4) (N := 8) hx hb hts hw4 hown hK hP 0 cX_at0 rfl 1 (by decide) k16 (fun _ h9 => h9) rfl dX4_whatIs_55 ?_
          refine lv_aload_n hx hb dX4_whatIs_58 rfl (lv_at hl 0 rfl) ?_
          refine va_get (D := D) (ci := 4) (v := .ref (A 1)) (C := RX4) (T := TX4) (N := 8) hx hb hts hw4 hown hK hP 0 cX_at0 rfl 0 (by decide) k10 (fun _ h9 => h9) rfl dX4_whatIs_59 ?_
          obtain ⟨a_6, ha_6, hf⟩ := bd_e hf
          refine Ct.callV (As := [.ref (A 1)]) (rest := []) (st1 := []) (c_X0_copyFrom l D cI (fun j => A (10 + j)) (fun j => A (1 + j)) q38.2.2 n a_6 ha_6) hx hb hml hown hts (cwV 1 hts gX4_whatIs_X0_copyFrom rfl rfl rfl hd_X0_copyFrom ⟨Nat.le_of_ble_eq_true rfl, Nat.le_of_ble_eq_true rfl⟩) (va_recv hK hP (ci := 0) (q0 := 10) rfl cX_at10) ln_X_HH_tn hA hK hP hD hS rfl hl.1 rfl rfl (Nat.le_of_ble_eq_true rfl) dX4_whatIs_62 (fun H locs hP hD hS => ?_)
          replace hP : va_P D vwCl (cX cI A n a_6 k g w z q) H := hP
          replace hD : va_D AA (cX cI A n a_6 k g w z q) := hD
          refine lv_iload_n hx hb dX4_whatIs_65 rfl (lv_at hl 2 rfl) ?_
          refine lv_if_ne (tgt := 83) hx hb dX4_whatIs_66 (by decide) (fun c_7 => ?_) (fun c_7 => ?_)
          · replace hf := if_f c_7 hf
            refine lv_aload_n hx hb dX4_whatIs_83 rfl (lv_at hl 0 rfl) ?_
            refine va_get (D := D) (ci := 4) (v := .ref (A 10)) (C := RX4) (T := TX4) (N := 8) hx hb hts hw4 hown hK hP 0 cX_at0 rfl 1 (by decide) k16 (fun _ h9 => h9) rfl dX4_whatIs_84 ?_
            refine va_get (D := D) (ci := 0) (v := .ref (A 15)) (C := RX0) (T := TX0) (N := 12) hx hb hts hw0 hown hK hP 10 cX_at10 rfl 6 (by decide) k98 (fun _ h9 => h9) rfl dX4_whatIs_87 ?_
            refine lv_iload_n hx hb dX4_whatIs_90 rfl (lv_at hl 1 rfl) ?_
            refine lv_iload hx hb dX4_whatIs_91 (lv_at hl 4 rfl) ?_
            obtain ⟨c_8, hf⟩ := gi_e hf
            refine va_iast hx hb hK hP hD hS 15 0 cX_at15 rfl c_8 dX4_whatIs_93 (fun H locs hP hD hS => ?_)
            obtain ⟨h_9, eh_9, hf⟩ := nm_e hf
            rw [cX_su15, ← eh_9] at hP hD
            refine lv_aload_n hx hb dX4_whatIs_94 rfl (lv_at hl 0 rfl) ?_
            refine lv_iload_n hx hb dX4_whatIs_95 rfl (lv_at hl 1 rfl) ?_
            obtain ⟨a_10, ha_10, hf⟩ := bd_e hf
            refine Ct.callV (As := [.int p1]) (rest := []) (st1 := [.int a_10.1]) (c_X4_rowTellsWordOf l D cI A n h_9 k g w z q p1 a_10 ha_10) hx hb hml hown hts (cwV 1 hts gX4_whatIs_X4_rowTellsWordOf rfl rfl rfl hd_X4_rowTellsWordOf ⟨Nat.le_of_ble_eq_true rfl, Nat.le_of_ble_eq_true rfl⟩) (va_recv hK hP (ci := 4) (q0 := 0) rfl cX_at0) (Ln.id rfl) hA hK hP hD hS rfl hl.1 rfl rfl (Nat.le_of_ble_eq_true rfl) dX4_whatIs_96 (fun H locs hP hD hS => ?_)
            replace hP : va_P D vwCl (cX cI A n a_10.2 k g w z q) H := hP
            replace hD : va_D AA (cX cI A n a_10.2 k g w z q) := hD
            refine lv_if_eq (tgt := 109) hx hb dX4_whatIs_99 (by decide) (fun c_11 => ?_) (fun c_11 => ?_)
            · replace hf := if_t c_11 hf
              obtain ⟨v_12, ev_12, hf⟩ := nm_e hf
              refine lv_iinc (v := v_12) (lv' := [(4, .int v_12), (0, .ref (A 0)), (1, .int p1), (2, .int p2), (3, .int q38.1)]) hx hb dX4_whatIs_109 hl (k := 4) rfl (by rw [ev_12]; rfl) (by decide) rfl (fun ls hl => ?_)
              refine lv_goto (tgt := 38) hx hb dX4_whatIs_112 (by decide) ?_
              exact ih38 (q38.1, v_12, a_10.2) hf H locs ls hP hD hS (lv_sub hl [1, 2, 3, 4, 0] rfl)
            · replace hf := if_f c_11 hf
              refine lv_iload_n hx hb dX4_whatIs_102 rfl (lv_at hl 3 rfl) ?_
              refine lv_iconst (v := 1) hx hb dX4_whatIs_103 (by decide) ?_
              refine lv_iload hx hb dX4_whatIs_104 (lv_at hl 4 rfl) ?_
              refine lv_ishl hx hb dX4_whatIs_106 ?_
              refine lv_ior hx hb dX4_whatIs_107 ?_
              refine lv_topi (fun v_13 ev_13 => ?_)
              replace hf := nm_at ev_13 hf
              refine lv_istore_n (lv' := [(3, .int v_13), (0, .ref (A 0)), (1, .int p1), (2, .int p2), (4, .int q38.2.1)]) hx hb dX4_whatIs_108 rfl hl (by decide) rfl (fun ls hl => ?_)
              obtain ⟨v_14, ev_14, hf⟩ := nm_e hf
              refine lv_iinc (v := v_14) (lv' := [(4, .int v_14), (3, .int v_13), (0, .ref (A 0)), (1, .int p1), (2, .int p2)]) hx hb dX4_whatIs_109 hl (k := 4) rfl (by rw [ev_14]; rfl) (by decide) rfl (fun ls hl => ?_)
              refine lv_goto (tgt := 38) hx hb dX4_whatIs_112 (by decide) ?_
              exact ih38 (v_13, v_14, a_10.2) hf H locs ls hP hD hS (lv_sub hl [2, 3, 4, 1, 0] rfl)
          · replace hf := if_t c_7 hf
            refine lv_aload_n hx hb dX4_whatIs_69 rfl (lv_at hl 0 rfl) ?_
            refine va_get (D := D) (ci := 4) (v := .ref (A 10)) (C := RX4) (T := TX4) (N := 8) hx hb hts hw4 hown hK hP 0 cX_at0 rfl 1 (by decide) k16 (fun _ h9 => h9) rfl dX4_whatIs_70 ?_
            refine va_get (D := D) (ci := 0) (v := .ref (A 14)) (C := RX0) (T := TX0) (N := 12) hx hb hts hw0 hown hK hP 10 cX_at10 rfl 5 (by decide) k95 (fun _ h9 => h9) rfl dX4_whatIs_73 ?_
            refine lv_iload_n hx hb dX4_whatIs_76 rfl (lv_at hl 1 rfl) ?_
            refine lv_iload hx hb dX4_whatIs_77 (lv_at hl 4 rfl) ?_
            obtain ⟨c_15, hf⟩ := gi_e hf
            refine va_iast hx hb hK hP hD hS 14 0 cX_at14 rfl c_15 dX4_whatIs_79 (fun H locs hP hD hS => ?_)
            obtain ⟨h_16, eh_16, hf⟩ := nm_e hf
            rw [cX_su14, ← eh_16] at hP hD
            refine lv_goto (tgt := 94) hx hb dX4_whatIs_80 (by decide) ?_
            refine lv_aload_n hx hb dX4_whatIs_94 rfl (lv_at hl 0 rfl) ?_
            refine lv_iload_n hx hb dX4_whatIs_95 rfl (lv_at hl 1 rfl) ?_
            obtain ⟨a_17, ha_17, hf⟩ := bd_e hf
            refine Ct.callV (As := [.int p1]) (rest := []) (st1 := [.int a_17.1]) (c_X4_rowTellsWordOf l D cI A n h_16 k g w z q p1 a_17 ha_17) hx hb hml hown hts (cwV 1 hts gX4_whatIs_X4_rowTellsWordOf rfl rfl rfl hd_X4_rowTellsWordOf ⟨Nat.le_of_ble_eq_true rfl, Nat.le_of_ble_eq_true rfl⟩) (va_recv hK hP (ci := 4) (q0 := 0) rfl cX_at0) (Ln.id rfl) hA hK hP hD hS rfl hl.1 rfl rfl (Nat.le_of_ble_eq_true rfl) dX4_whatIs_96 (fun H locs hP hD hS => ?_)
            replace hP : va_P D vwCl (cX cI A n a_17.2 k g w z q) H := hP
            replace hD : va_D AA (cX cI A n a_17.2 k g w z q) := hD
            refine lv_if_eq (tgt := 109) hx hb dX4_whatIs_99 (by decide) (fun c_18 => ?_) (fun c_18 => ?_)
            · replace hf := if_t c_18 hf
              obtain ⟨v_19, ev_19, hf⟩ := nm_e hf
              refine lv_iinc (v := v_19) (lv' := [(4, .int v_19), (0, .ref (A 0)), (1, .int p1), (2, .int p2), (3, .int q38.1)]) hx hb dX4_whatIs_109 hl (k := 4) rfl (by rw [ev_19]; rfl) (by decide) rfl (fun ls hl => ?_)
              refine lv_goto (tgt := 38) hx hb dX4_whatIs_112 (by decide) ?_
              exact ih38 (q38.1, v_19, a_17.2) hf H locs ls hP hD hS (lv_sub hl [1, 2, 3, 4, 0] rfl)
            · replace hf := if_f c_18 hf
              refine lv_iload_n hx hb dX4_whatIs_102 rfl (lv_at hl 3 rfl) ?_
              refine lv_iconst (v := 1) hx hb dX4_whatIs_103 (by decide) ?_
              refine lv_iload hx hb dX4_whatIs_104 (lv_at hl 4 rfl) ?_
              refine lv_ishl hx hb dX4_whatIs_106 ?_
              refine lv_ior hx hb dX4_whatIs_107 ?_
              refine lv_topi (fun v_20 ev_20 => ?_)
              replace hf := nm_at ev_20 hf
              refine lv_istore_n (lv' := [(3, .int v_20), (0, .ref (A 0)), (1, .int p1), (2, .int p2), (4, .int q38.2.1)]) hx hb dX4_whatIs_108 rfl hl (by decide) rfl (fun ls hl => ?_)
              obtain ⟨v_21, ev_21, hf⟩ := nm_e hf
              refine lv_iinc (v := v_21) (lv' := [(4, .int v_21), (3, .int v_20), (0, .ref (A 0)), (1, .int p1), (2, .int p2)]) hx hb dX4_whatIs_109 hl (k := 4) rfl (by rw [ev_21]; rfl) (by decide) rfl (fun ls hl => ?_)
              refine lv_goto (tgt := 38) hx hb dX4_whatIs_112 (by decide) ?_
              exact ih38 (v_20, v_21, a_17.2) hf H locs ls hP hD hS (lv_sub hl [2, 3, 4, 1, 0] rfl)
      · replace hf := if_t c_4 hf
        refine lv_bipush (v := 6) hx hb dX4_whatIs_44 (by decide +kernel) ?_
        refine lv_goto (tgt := 51) hx hb dX4_whatIs_46 (by decide) ?_
        refine lv_icmp_ge (tgt := 115) hx hb dX4_whatIs_51 (by decide) (fun c_22 => ?_) (fun c_22 => ?_)
        · replace hf := if_t c_22 hf
          refine lv_iload_n hx hb dX4_whatIs_115 rfl (lv_at hl 3 rfl) ?_
          exact hend (q38.1, q38.2.2, q) H locs _ _ hf hP hS dX4_whatIs_116
        · replace hf := if_f c_22 hf
          refine lv_aload_n hx hb dX4_whatIs_54 rfl (lv_at hl 0 rfl) ?_
          refine va_get (D := D) (ci := 4) (v := .ref (A 10)) (C := RX4) (T := TX4) (N := 8) hx hb hts hw4 hown hK hP 0 cX_at0 rfl 1 (by decide) k16 (fun _ h9 => h9) rfl dX4_whatIs_55 ?_
          refine lv_aload_n hx hb dX4_whatIs_58 rfl (lv_at hl 0 rfl) ?_
          refine va_get (D := D) (ci := 4) (v := .ref (A 1)) (C := RX4) (T := TX4) (N := 8) hx hb hts hw4 hown hK hP 0 cX_at0 rfl 0 (by decide) k10 (fun _ h9 => h9) rfl dX4_whatIs_59 ?_
          obtain ⟨a_23, ha_23, hf⟩ := bd_e hf
          refine Ct.callV (As := [.ref (A 1)]) (rest := []) (st1 := []) (c_X0_copyFrom l D cI (fun j => A (10 + j)) (fun j => A (1 + j)) q38.2.2 n a_23 ha_23) hx hb hml hown hts (cwV 1 hts gX4_whatIs_X0_copyFrom rfl rfl rfl hd_X0_copyFrom ⟨Nat.le_of_ble_eq_true rfl, Nat.le_of_ble_eq_true rfl⟩) (va_recv hK hP (ci := 0) (q0 := 10) rfl cX_at10) ln_X_HH_tn hA hK hP hD hS rfl hl.1 rfl rfl (Nat.le_of_ble_eq_true rfl) dX4_whatIs_62 (fun H locs hP hD hS => ?_)
          replace hP : va_P D vwCl (cX cI A n a_23 k g w z q) H := hP
          replace hD : va_D AA (cX cI A n a_23 k g w z q) := hD
          refine lv_iload_n hx hb dX4_whatIs_65 rfl (lv_at hl 2 rfl) ?_
          refine lv_if_ne (tgt := 83) hx hb dX4_whatIs_66 (by decide) (fun c_24 => ?_) (fun c_24 => ?_)
          · replace hf := if_f c_24 hf
            refine lv_aload_n hx hb dX4_whatIs_83 rfl (lv_at hl 0 rfl) ?_
            refine va_get (D := D) (ci := 4) (v := .ref (A 10)) (C := RX4) (T := TX4) (N := 8) hx hb hts hw4 hown hK hP 0 cX_at0 rfl 1 (by decide) k16 (fun _ h9 => h9) rfl dX4_whatIs_84 ?_
            refine va_get (D := D) (ci := 0) (v := .ref (A 15)) (C := RX0) (T := TX0) (N := 12) hx hb hts hw0 hown hK hP 10 cX_at10 rfl 6 (by decide) k98 (fun _ h9 => h9) rfl dX4_whatIs_87 ?_
            refine lv_iload_n hx hb dX4_whatIs_90 rfl (lv_at hl 1 rfl) ?_
            refine lv_iload hx hb dX4_whatIs_91 (lv_at hl 4 rfl) ?_
            obtain ⟨c_25, hf⟩ := gi_e hf
            refine va_iast hx hb hK hP hD hS 15 0 cX_at15 rfl c_25 dX4_whatIs_93 (fun H locs hP hD hS => ?_)
            obtain ⟨h_26, eh_26, hf⟩ := nm_e hf
            rw [cX_su15, ← eh_26] at hP hD
            refine lv_aload_n hx hb dX4_whatIs_94 rfl (lv_at hl 0 rfl) ?_
            refine lv_iload_n hx hb dX4_whatIs_95 rfl (lv_at hl 1 rfl) ?_
            obtain ⟨a_27, ha_27, hf⟩ := bd_e hf
            refine Ct.callV (As := [.int p1]) (rest := []) (st1 := [.int a_27.1]) (c_X4_rowTellsWordOf l D cI A n h_26 k g w z q p1 a_27 ha_27) hx hb hml hown hts (cwV 1 hts gX4_whatIs_X4_rowTellsWordOf rfl rfl rfl hd_X4_rowTellsWordOf ⟨Nat.le_of_ble_eq_true rfl, Nat.le_of_ble_eq_true rfl⟩) (va_recv hK hP (ci := 4) (q0 := 0) rfl cX_at0) (Ln.id rfl) hA hK hP hD hS rfl hl.1 rfl rfl (Nat.le_of_ble_eq_true rfl) dX4_whatIs_96 (fun H locs hP hD hS => ?_)
            replace hP : va_P D vwCl (cX cI A n a_27.2 k g w z q) H := hP
            replace hD : va_D AA (cX cI A n a_27.2 k g w z q) := hD
            refine lv_if_eq (tgt := 109) hx hb dX4_whatIs_99 (by decide) (fun c_28 => ?_) (fun c_28 => ?_)
            · replace hf := if_t c_28 hf
              obtain ⟨v_29, ev_29, hf⟩ := nm_e hf
              refine lv_iinc (v := v_29) (lv' := [(4, .int v_29), (0, .ref (A 0)), (1, .int p1), (2, .int p2), (3, .int q38.1)]) hx hb dX4_whatIs_109 hl (k := 4) rfl (by rw [ev_29]; rfl) (by decide) rfl (fun ls hl => ?_)
              refine lv_goto (tgt := 38) hx hb dX4_whatIs_112 (by decide) ?_
              exact ih38 (q38.1, v_29, a_27.2) hf H locs ls hP hD hS (lv_sub hl [1, 2, 3, 4, 0] rfl)
            · replace hf := if_f c_28 hf
              refine lv_iload_n hx hb dX4_whatIs_102 rfl (lv_at hl 3 rfl) ?_
              refine lv_iconst (v := 1) hx hb dX4_whatIs_103 (by decide) ?_
              refine lv_iload hx hb dX4_whatIs_104 (lv_at hl 4 rfl) ?_
              refine lv_ishl hx hb dX4_whatIs_106 ?_
              refine lv_ior hx hb dX4_whatIs_107 ?_
              refine lv_topi (fun v_30 ev_30 => ?_)
              replace hf := nm_at ev_30 hf
              refine lv_istore_n (lv' := [(3, .int v_30), (0, .ref (A 0)), (1, .int p1), (2, .int p2), (4, .int q38.2.1)]) hx hb dX4_whatIs_108 rfl hl (by decide) rfl (fun ls hl => ?_)
              obtain ⟨v_31, ev_31, hf⟩ := nm_e hf
              refine lv_iinc (v := v_31) (lv' := [(4, .int v_31), (3, .int v_30), (0, .ref (A 0)), (1, .int p1), (2, .int p2)]) hx hb dX4_whatIs_109 hl (k := 4) rfl (by rw [ev_31]; rfl) (by decide) rfl (fun ls hl => ?_)
              refine lv_goto (tgt := 38) hx hb dX4_whatIs_112 (by decide) ?_
              exact ih38 (v_30, v_31, a_27.2) hf H locs ls hP hD hS (lv_sub hl [2, 3, 4, 1, 0] rfl)
          · replace hf := if_t c_24 hf
            refine lv_aload_n hx hb dX4_whatIs_69 rfl (lv_at hl 0 rfl) ?_
            refine va_get (D := D) (ci := 4) (v := .ref (A 10)) (C := RX4) (T := TX4) (N := 8) hx hb hts hw4 hown hK hP 0 cX_at0 rfl 1 (by decide) k16 (fun _ h9 => h9) rfl dX4_whatIs_70 ?_
            refine va_get (D := D) (ci := 0) (v := .ref (A 14)) (C := RX0) (T := TX0) (N := 12) hx hb hts hw0 hown hK hP 10 cX_at10 rfl 5 (by decide) k95 (fun _ h9 => h9) rfl dX4_whatIs_73 ?_
            refine lv_iload_n hx hb dX4_whatIs_76 rfl (lv_at hl 1 rfl) ?_
            refine lv_iload hx hb dX4_whatIs_77 (lv_at hl 4 rfl) ?_
            obtain ⟨c_32, hf⟩ := gi_e hf
            refine va_iast hx hb hK hP hD hS 14 0 cX_at14 rfl c_32 dX4_whatIs_79 (fun H locs hP hD hS => ?_)
            obtain ⟨h_33, eh_33, hf⟩ := nm_e hf
            rw [cX_su14, ← eh_33] at hP hD
            refine lv_goto (tgt := 94) hx hb dX4_whatIs_80 (by decide) ?_
            refine lv_aload_n hx hb dX4_whatIs_94 rfl (lv_at hl 0 rfl) ?_
            refine lv_iload_n hx hb dX4_whatIs_95 rfl (lv_at hl 1 rfl) ?_
            obtain ⟨a_34, ha_34, hf⟩ := bd_e hf
            refine Ct.callV (As := [.int p1]) (rest := []) (st1 := [.int a_34.1]) (c_X4_rowTellsWordOf l D cI A n h_33 k g w z q p1 a_34 ha_34) hx hb hml hown hts (cwV 1 hts gX4_whatIs_X4_rowTellsWordOf rfl rfl rfl hd_X4_rowTellsWordOf ⟨Nat.le_of_ble_eq_true rfl, Nat.le_of_ble_eq_true rfl⟩) (va_recv hK hP (ci := 4) (q0 := 0) rfl cX_at0) (Ln.id rfl) hA hK hP hD hS rfl hl.1 rfl rfl (Nat.le_of_ble_eq_true rfl) dX4_whatIs_96 (fun H locs hP hD hS => ?_)
            replace hP : va_P D vwCl (cX cI A n a_34.2 k g w z q) H := hP
            replace hD : va_D AA (cX cI A n a_34.2 k g w z q) := hD
            refine lv_if_eq (tgt := 109) hx hb dX4_whatIs_99 (by decide) (fun c_35 => ?_) (fun c_35 => ?_)
            · replace hf := if_t c_35 hf
              obtain ⟨v_36, ev_36, hf⟩ := nm_e hf
              refine lv_iinc (v := v_36) (lv' := [(4, .int v_36), (0, .ref (A 0)), (1, .int p1), (2, .int p2), (3, .int q38.1)]) hx hb dX4_whatIs_109 hl (k := 4) rfl (by rw [ev_36]; rfl) (by decide) rfl (fun ls hl => ?_)
              refine lv_goto (tgt := 38) hx hb dX4_whatIs_112 (by decide) ?_
              exact ih38 (q38.1, v_36, a_34.2) hf H locs ls hP hD hS (lv_sub hl [1, 2, 3, 4, 0] rfl)
            · replace hf := if_f c_35 hf
              refine lv_iload_n hx hb dX4_whatIs_102 rfl (lv_at hl 3 rfl) ?_
              refine lv_iconst (v := 1) hx hb dX4_whatIs_103 (by decide) ?_
              refine lv_iload hx hb dX4_whatIs_104 (lv_at hl 4 rfl) ?_
              refine lv_ishl hx hb dX4_whatIs_106 ?_
              refine lv_ior hx hb dX4_whatIs_107 ?_
              refine lv_topi (fun v_37 ev_37 => ?_)
              replace hf := nm_at ev_37 hf
              refine lv_istore_n (lv' := [(3, .int v_37), (0, .ref (A 0)), (1, .int p1), (2, .int p2), (4, .int q38.2.1)]) hx hb dX4_whatIs_108 rfl hl (by decide) rfl (fun ls hl => ?_)
              obtain ⟨v_38, ev_38, hf⟩ := nm_e hf
              refine lv_iinc (v := v_38) (lv' := [(4, .int v_38), (3, .int v_37), (0, .ref (A 0)), (1, .int p1), (2, .int p2)]) hx hb dX4_whatIs_109 hl (k := 4) rfl (by rw [ev_38]; rfl) (by decide) rfl (fun ls hl => ?_)
              refine lv_goto (tgt := 38) hx hb dX4_whatIs_112 (by decide) ?_
              exact ih38 (v_37, v_38, a_34.2) hf H locs ls hP hD hS (lv_sub hl [2, 3, 4, 1, 0] rfl)
    · replace hf := if_f c_3 hf
      refine lv_iload_n hx hb dX4_whatIs_21 rfl (lv_at hl 2 rfl) ?_
      refine lv_iconst (v := 1) hx hb dX4_whatIs_22 (by decide) ?_
      refine lv_icmp_eq (tgt := 33) hx hb dX4_whatIs_23 (by decide) (fun c_39 => ?_) (fun c_39 => ?_)
      · replace hf := if_t c_39 hf
        refine lv_iconst (v := 0) hx hb dX4_whatIs_33 (by decide) ?_
        refine lv_istore_n (lv' := [(3, .int (0 : Int32)), (0, .ref (A 0)), (1, .int p1), (2, .int p2)]) hx hb dX4_whatIs_34 rfl hl (by decide) rfl (fun ls hl => ?_)
        refine lv_iconst (v := 0) hx hb dX4_whatIs_35 (by decide) ?_
        refine lv_istore (lv' := [(4, .int (0 : Int32)), (3, .int (0 : Int32)), (0, .ref (A 0)), (1, .int p1), (2, .int p2)]) hx hb dX4_whatIs_36 hl (by decide) rfl (fun ls hl => ?_)
        refine lp_ind (P := fun (q38 : Int32 × Int32 × St) => ∀ (H : Heap) (locs : List Loc) (ls : Array Slot), va_P D vwCl (cX cI A n q38.2.2 k g w z q) H → va_D AA (cX cI A n q38.2.2 k g w z q) → va_S AA s.heap H locs → lv_has ls 5 [(0, .ref (A 0)), (1, .int p1), (2, .int p2), (3, .int q38.1), (4, .int q38.2.1)] → W p l e rm_X4_whatIs s m args below meth c H locs 0 0 Q (F0 m 38 ls [])) hf ?_ H locs ls hP hD hS (lv_sub hl [2, 3, 4, 1, 0] rfl)
        clear hf hP hD hS hl
        intro nx38 ih38 q38 hf H locs ls hP hD hS hl
        refine lv_iload hx hb dX4_whatIs_38 (lv_at hl 4 rfl) ?_
        refine lv_iload_n hx hb dX4_whatIs_40 rfl (lv_at hl 2 rfl) ?_
        refine lv_if_ne (tgt := 49) hx hb dX4_whatIs_41 (by decide) (fun c_40 => ?_) (fun c_40 => ?_)
        · replace hf := if_f c_40 hf
          refine lv_bipush (v := 10) hx hb dX4_whatIs_49 (by decide +kernel) ?_
          refine lv_icmp_ge (tgt := 115) hx hb dX4_whatIs_51 (by decide) (fun c_41 => ?_) (fun c_41 => ?_)
          · replace hf := if_t c_41 hf
            refine lv_iload_n hx hb dX4_whatIs_115 rfl (lv_at hl 3 rfl) ?_
            exact hend (q38.1, q38.2.2, q) H locs _ _ hf hP hS dX4_whatIs_116
          · replace hf := if_f c_41 hf
            refine lv_aload_n hx hb dX4_whatIs_54 rfl (lv_at hl 0 rfl) ?_
            refine va_get (D := D) (ci := 4) (v := .ref (A 10)) (C := RX4) (T := TX4) (N := 8) hx hb hts hw4 hown hK hP 0 cX_at0 rfl 1 (by decide) k16 (fun _ h9 => h9) rfl dX4_whatIs_55 ?_
            refine lv_aload_n hx hb dX4_whatIs_58 rfl (lv_at hl 0 rfl) ?_
            refine va_get (D := D) (ci := 4) (v := .ref (A 1)) (C := RX4) (T := TX4) (N := 8) hx hb hts hw4 hown hK hP 0 cX_at0 rfl 0 (by decide) k10 (fun _ h9 => h9) rfl dX4_whatIs_59 ?_
            obtain ⟨a_42, ha_42, hf⟩ := bd_e hf
            refine Ct.callV (As := [.ref (A 1)]) (rest := []) (st1 := []) (c_X0_copyFrom l D cI (fun j => A (10 + j)) (fun j => A (1 + j)) q38.2.2 n a_42 ha_42) hx hb hml hown hts (cwV 1 hts gX4_whatIs_X0_copyFrom rfl rfl rfl hd_X0_copyFrom ⟨Nat.le_of_ble_eq_true rfl, Nat.le_of_ble_eq_true rfl⟩) (va_recv hK hP (ci := 0) (q0 := 10) rfl cX_at10) ln_X_HH_tn hA hK hP hD hS rfl hl.1 rfl rfl (Nat.le_of_ble_eq_true rfl) dX4_whatIs_62 (fun H locs hP hD hS => ?_)
            replace hP : va_P D vwCl (cX cI A n a_42 k g w z q) H := hP
            replace hD : va_D AA (cX cI A n a_42 k g w z q) := hD
            refine lv_iload_n hx hb dX4_whatIs_65 rfl (lv_at hl 2 rfl) ?_
            refine lv_if_ne (tgt := 83) hx hb dX4_whatIs_66 (by decide) (fun c_43 => ?_) (fun c_43 => ?_)
            · replace hf := if_f c_43 hf
              refine lv_aload_n hx hb dX4_whatIs_83 rfl (lv_at hl 0 rfl) ?_
              refine va_get (D := D) (ci := 4) (v := .ref (A 10)) (C := RX4) (T := TX4) (N := 8) hx hb hts hw4 hown hK hP 0 cX_at0 rfl 1 (by decide) k16 (fun _ h9 => h9) rfl dX4_whatIs_84 ?_
              refine va_get (D := D) (ci := 0) (v := .ref (A 15)) (C := RX0) (T := TX0) (N := 12) hx hb hts hw0 hown hK hP 10 cX_at10 rfl 6 (by decide) k98 (fun _ h9 => h9) rfl dX4_whatIs_87 ?_
              refine lv_iload_n hx hb dX4_whatIs_90 rfl (lv_at hl 1 rfl) ?_
              refine lv_iload hx hb dX4_whatIs_91 (lv_at hl 4 rfl) ?_
              obtain ⟨c_44, hf⟩ := gi_e hf
              refine va_iast hx hb hK hP hD hS 15 0 cX_at15 rfl c_44 dX4_whatIs_93 (fun H locs hP hD hS => ?_)
              obtain ⟨h_45, eh_45, hf⟩ := nm_e hf
              rw [cX_su15, ← eh_45] at hP hD
              refine lv_aload_n hx hb dX4_whatIs_94 rfl (lv_at hl 0 rfl) ?_
              refine lv_iload_n hx hb dX4_whatIs_95 rfl (lv_at hl 1 rfl) ?_
              obtain ⟨a_46, ha_46, hf⟩ := bd_e hf
              refine Ct.callV (As := [.int p1]) (rest := []) (st1 := [.int a_46.1]) (c_X4_rowTellsWordOf l D cI A n h_45 k g w z q p1 a_46 ha_46) hx hb hml hown hts (cwV 1 hts gX4_whatIs_X4_rowTellsWordOf rfl rfl rfl hd_X4_rowTellsWordOf ⟨Nat.le_of_ble_eq_true rfl, Nat.le_of_ble_eq_true rfl⟩) (va_recv hK hP (ci := 4) (q0 := 0) rfl cX_at0) (Ln.id rfl) hA hK hP hD hS rfl hl.1 rfl rfl (Nat.le_of_ble_eq_true rfl) dX4_whatIs_96 (fun H locs hP hD hS => ?_)
              replace hP : va_P D vwCl (cX cI A n a_46.2 k g w z q) H := hP
              replace hD : va_D AA (cX cI A n a_46.2 k g w z q) := hD
              refine lv_if_eq (tgt := 109) hx hb dX4_whatIs_99 (by decide) (fun c_47 => ?_) (fun c_47 => ?_)
              · replace hf := if_t c_47 hf
                obtain ⟨v_48, ev_48, hf⟩ := nm_e hf
                refine lv_iinc (v := v_48) (lv' := [(4, .int v_48), (0, .ref (A 0)), (1, .int p1), (2, .int p2), (3, .int q38.1)]) hx hb dX4_whatIs_109 hl (k := 4) rfl (by rw [ev_48]; rfl) (by decide) rfl (fun ls hl => ?_)
                refine lv_goto (tgt := 38) hx hb dX4_whatIs_112 (by decide) ?_
                exact ih38 (q38.1, v_48, a_46.2) hf H locs ls hP hD hS (lv_sub hl [1, 2, 3, 4, 0] rfl)
              · replace hf := if_f c_47 hf
                refine lv_iload_n hx hb dX4_whatIs_102 rfl (lv_at hl 3 rfl) ?_
                refine lv_iconst (v := 1) hx hb dX4_whatIs_103 (by decide) ?_
                refine lv_iload hx hb dX4_whatIs_104 (lv_at hl 4 rfl) ?_
                refine lv_ishl hx hb dX4_whatIs_106 ?_
                refine lv_ior hx hb dX4_whatIs_107 ?_
                refine lv_topi (fun v_49 ev_49 => ?_)
                replace hf := nm_at ev_49 hf
                refine lv_istore_n (lv' := [(3, .int v_49), (0, .ref (A 0)), (1, .int p1), (2, .int p2), (4, .int q38.2.1)]) hx hb dX4_whatIs_108 rfl hl (by decide) rfl (fun ls hl => ?_)
                obtain ⟨v_50, ev_50, hf⟩ := nm_e hf
                refine lv_iinc (v := v_50) (lv' := [(4, .int v_50), (3, .int v_49), (0, .ref (A 0)), (1, .int p1), (2, .int p2)]) hx hb dX4_whatIs_109 hl (k := 4) rfl (by rw [ev_50]; rfl) (by decide) rfl (fun ls hl => ?_)
                refine lv_goto (tgt := 38) hx hb dX4_whatIs_112 (by decide) ?_
                exact ih38 (v_49, v_50, a_46.2) hf H locs ls hP hD hS (lv_sub hl [2, 3, 4, 1, 0] rfl)
            · replace hf := if_t c_43 hf
              refine lv_aload_n hx hb dX4_whatIs_69 rfl (lv_at hl 0 rfl) ?_
              refine va_get (D := D) (ci := 4) (v := .ref (A 10)) (C := RX4) (T := TX4) (N := 8) hx hb hts hw4 hown hK hP 0 cX_at0 rfl 1 (by decide) k16 (fun _ h9 => h9) rfl dX4_whatIs_70 ?_
              refine va_get (D := D) (ci := 0) (v := .ref (A 14)) (C := RX0) (T := TX0) (N := 12) hx hb hts hw0 hown hK hP 10 cX_at10 rfl 5 (by decide) k95 (fun _ h9 => h9) rfl dX4_whatIs_73 ?_
              refine lv_iload_n hx hb dX4_whatIs_76 rfl (lv_at hl 1 rfl) ?_
              refine lv_iload hx hb dX4_whatIs_77 (lv_at hl 4 rfl) ?_
              obtain ⟨c_51, hf⟩ := gi_e hf
              refine va_iast hx hb hK hP hD hS 14 0 cX_at14 rfl c_51 dX4_whatIs_79 (fun H locs hP hD hS => ?_)
              obtain ⟨h_52, eh_52, hf⟩ := nm_e hf
              rw [cX_su14, ← eh_52] at hP hD
              refine lv_goto (tgt := 94) hx hb dX4_whatIs_80 (by decide) ?_
              refine lv_aload_n hx hb dX4_whatIs_94 rfl (lv_at hl 0 rfl) ?_
              refine lv_iload_n hx hb dX4_whatIs_95 rfl (lv_at hl 1 rfl) ?_
              obtain ⟨a_53, ha_53, hf⟩ := bd_e hf
              refine Ct.callV (As := [.int p1]) (rest := []) (st1 := [.int a_53.1]) (c_X4_rowTellsWordOf l D cI A n h_52 k g w z q p1 a_53 ha_53) hx hb hml hown hts (cwV 1 hts gX4_whatIs_X4_rowTellsWordOf rfl rfl rfl hd_X4_rowTellsWordOf ⟨Nat.le_of_ble_eq_true rfl, Nat.le_of_ble_eq_true rfl⟩) (va_recv hK hP (ci := 4) (q0 := 0) rfl cX_at0) (Ln.id rfl) hA hK hP hD hS rfl hl.1 rfl rfl (Nat.le_of_ble_eq_true rfl) dX4_whatIs_96 (fun H locs hP hD hS => ?_)
              replace hP : va_P D vwCl (cX cI A n a_53.2 k g w z q) H := hP
              replace hD : va_D AA (cX cI A n a_53.2 k g w z q) := hD
              refine lv_if_eq (tgt := 109) hx hb dX4_whatIs_99 (by decide) (fun c_54 => ?_) (fun c_54 => ?_)
              · replace hf := if_t c_54 hf
                obtain ⟨v_55, ev_55, hf⟩ := nm_e hf
                refine lv_iinc (v := v_55) (lv' := [(4, .int v_55), (0, .ref (A 0)), (1, .int p1), (2, .int p2), (3, .int q38.1)]) hx hb dX4_whatIs_109 hl (k := 4) rfl (by rw [ev_55]; rfl) (by decide) rfl (fun ls hl => ?_)
                refine lv_goto (tgt := 38) hx hb dX4_whatIs_112 (by decide) ?_
                exact ih38 (q38.1, v_55, a_53.2) hf H locs ls hP hD hS (lv_sub hl [1, 2, 3, 4, 0] rfl)
              · replace hf := if_f c_54 hf
                refine lv_iload_n hx hb dX4_whatIs_102 rfl (lv_at hl 3 rfl) ?_
                refine lv_iconst (v := 1) hx hb dX4_whatIs_103 (by decide) ?_
                refine lv_iload hx hb dX4_whatIs_104 (lv_at hl 4 rfl) ?_
                refine lv_ishl hx hb dX4_whatIs_106 ?_
                refine lv_ior hx hb dX4_whatIs_107 ?_
                refine lv_topi (fun v_56 ev_56 => ?_)
                replace hf := nm_at ev_56 hf
                refine lv_istore_n (lv' := [(3, .int v_56), (0, .ref (A 0)), (1, .int p1), (2, .int p2), (4, .int q38.2.1)]) hx hb dX4_whatIs_108 rfl hl (by decide) rfl (fun ls hl => ?_)
                obtain ⟨v_57, ev_57, hf⟩ := nm_e hf
                refine lv_iinc (v := v_57) (lv' := [(4, .int v_57), (3, .int v_56), (0, .ref (A 0)), (1, .int p1), (2, .int p2)]) hx hb dX4_whatIs_109 hl (k := 4) rfl (by rw [ev_57]; rfl) (by decide) rfl (fun ls hl => ?_)
                refine lv_goto (tgt := 38) hx hb dX4_whatIs_112 (by decide) ?_
                exact ih38 (v_56, v_57, a_53.2) hf H locs ls hP hD hS (lv_sub hl [2, 3, 4, 1, 0] rfl)
        · replace hf := if_t c_40 hf
          refine lv_bipush (v := 6) hx hb dX4_whatIs_44 (by decide +kernel) ?_
          refine lv_goto (tgt := 51) hx hb dX4_whatIs_46 (by decide) ?_
          refine lv_icmp_ge (tgt := 115) hx hb dX4_whatIs_51 (by decide) (fun c_58 => ?_) (fun c_58 => ?_)
          · replace hf := if_t c_58 hf
            refine lv_iload_n hx hb dX4_whatIs_115 rfl (lv_at hl 3 rfl) ?_
            exact hend (q38.1, q38.2.2, q) H locs _ _ hf hP hS dX4_whatIs_116
          · replace hf := if_f c_58 hf
            refine lv_aload_n hx hb dX4_whatIs_54 rfl (lv_at hl 0 rfl) ?_
            refine va_get (D := D) (ci := 4) (v := .ref (A 10)) (C := RX4) (T := TX4) (N := 8) hx hb hts hw4 hown hK hP 0 cX_at0 rfl 1 (by decide) k16 (fun _ h9 => h9) rfl dX4_whatIs_55 ?_
            refine lv_aload_n hx hb dX4_whatIs_58 rfl (lv_at hl 0 rfl) ?_
            refine va_get (D := D) (ci := 4) (v := .ref (A 1)) (C := RX4) (T := TX4) (N := 8) hx hb hts hw4 hown hK hP 0 cX_at0 rfl 0 (by decide) k10 (fun _ h9 => h9) rfl dX4_whatIs_59 ?_
            obtain ⟨a_59, ha_59, hf⟩ := bd_e hf
            refine Ct.callV (As := [.ref (A 1)]) (rest := []) (st1 := []) (c_X0_copyFrom l D cI (fun j => A (10 + j)) (fun j => A (1 + j)) q38.2.2 n a_59 ha_59) hx hb hml hown hts (cwV 1 hts gX4_whatIs_X0_copyFrom rfl rfl rfl hd_X0_copyFrom ⟨Nat.le_of_ble_eq_true rfl, Nat.le_of_ble_eq_true rfl⟩) (va_recv hK hP (ci := 0) (q0 := 10) rfl cX_at10) ln_X_HH_tn hA hK hP hD hS rfl hl.1 rfl rfl (Nat.le_of_ble_eq_true rfl) dX4_whatIs_62 (fun H locs hP hD hS => ?_)
            replace hP : va_P D vwCl (cX cI A n a_59 k g w z q) H := hP
            replace hD : va_D AA (cX cI A n a_59 k g w z q) := hD
            refine lv_iload_n hx hb dX4_whatIs_65 rfl (lv_at hl 2 rfl) ?_
            refine lv_if_ne (tgt := 83) hx hb dX4_whatIs_66 (by decide) (fun c_60 => ?_) (fun c_60 => ?_)
            · replace hf := if_f c_60 hf
              refine lv_aload_n hx hb dX4_whatIs_83 rfl (lv_at hl 0 rfl) ?_
              refine va_get (D := D) (ci := 4) (v := .ref (A 10)) (C := RX4) (T := TX4) (N := 8) hx hb hts hw4 hown hK hP 0 cX_at0 rfl 1 (by decide) k16 (fun _ h9 => h9) rfl dX4_whatIs_84 ?_
              refine va_get (D := D) (ci := 0) (v := .ref (A 15)) (C := RX0) (T := TX0) (N := 12) hx hb hts hw0 hown hK hP 10 cX_at10 rfl 6 (by decide) k98 (fun _ h9 => h9) rfl dX4_whatIs_87 ?_
              refine lv_iload_n hx hb dX4_whatIs_90 rfl (lv_at hl 1 rfl) ?_
              refine lv_iload hx hb dX4_whatIs_91 (lv_at hl 4 rfl) ?_
              obtain ⟨c_61, hf⟩ := gi_e hf
              refine va_iast hx hb hK hP hD hS 15 0 cX_at15 rfl c_61 dX4_whatIs_93 (fun H locs hP hD hS => ?_)
              obtain ⟨h_62, eh_62, hf⟩ := nm_e hf
              rw [cX_su15, ← eh_62] at hP hD
              refine lv_aload_n hx hb dX4_whatIs_94 rfl (lv_at hl 0 rfl) ?_
              refine lv_iload_n hx hb dX4_whatIs_95 rfl (lv_at hl 1 rfl) ?_
              obtain ⟨a_63, ha_63, hf⟩ := bd_e hf
              refine Ct.callV (As := [.int p1]) (rest := []) (st1 := [.int a_63.1]) (c_X4_rowTellsWordOf l D cI A n h_62 k g w z q p1 a_63 ha_63) hx hb hml hown hts (cwV 1 hts gX4_whatIs_X4_rowTellsWordOf rfl rfl rfl hd_X4_rowTellsWordOf ⟨Nat.le_of_ble_eq_true rfl, Nat.le_of_ble_eq_true rfl⟩) (va_recv hK hP (ci := 4) (q0 := 0) rfl cX_at0) (Ln.id rfl) hA hK hP hD hS rfl hl.1 rfl rfl (Nat.le_of_ble_eq_true rfl) dX4_whatIs_96 (fun H locs hP hD hS => ?_)
              replace hP : va_P D vwCl (cX cI A n a_63.2 k g w z q) H := hP
              replace hD : va_D AA (cX cI A n a_63.2 k g w z q) := hD
              refine lv_if_eq (tgt := 109) hx hb dX4_whatIs_99 (by decide) (fun c_64 => ?_) (fun c_64 => ?_)
              · replace hf := if_t c_64 hf
                obtain ⟨v_65, ev_65, hf⟩ := nm_e hf
                refine lv_iinc (v := v_65) (lv' := [(4, .int v_65), (0, .ref (A 0)), (1, .int p1), (2, .int p2), (3, .int q38.1)]) hx hb dX4_whatIs_109 hl (k := 4) rfl (by rw [ev_65]; rfl) (by decide) rfl (fun ls hl => ?_)
                refine lv_goto (tgt := 38) hx hb dX4_whatIs_112 (by decide) ?_
                exact ih38 (q38.1, v_65, a_63.2) hf H locs ls hP hD hS (lv_sub hl [1, 2, 3, 4, 0] rfl)
              · replace hf := if_f c_64 hf
                refine lv_iload_n hx hb dX4_whatIs_102 rfl (lv_at hl 3 rfl) ?_
                refine lv_iconst (v := 1) hx hb dX4_whatIs_103 (by decide) ?_
                refine lv_iload hx hb dX4_whatIs_104 (lv_at hl 4 rfl) ?_
                refine lv_ishl hx hb dX4_whatIs_106 ?_
                refine lv_ior hx hb dX4_whatIs_107 ?_
                refine lv_topi (fun v_66 ev_66 => ?_)
                replace hf := nm_at ev_66 hf
                refine lv_istore_n (lv' := [(3, .int v_66), (0, .ref (A 0)), (1, .int p1), (2, .int p2), (4, .int q38.2.1)]) hx hb dX4_whatIs_108 rfl hl (by decide) rfl (fun ls hl => ?_)
                obtain ⟨v_67, ev_67, hf⟩ := nm_e hf
                refine lv_iinc (v := v_67) (lv' := [(4, .int v_67), (3, .int v_66), (0, .ref (A 0)), (1, .int p1), (2, .int p2)]) hx hb dX4_whatIs_109 hl (k := 4) rfl (by rw [ev_67]; rfl) (by decide) rfl (fun ls hl => ?_)
                refine lv_goto (tgt := 38) hx hb dX4_whatIs_112 (by decide) ?_
                exact ih38 (v_66, v_67, a_63.2) hf H locs ls hP hD hS (lv_sub hl [2, 3, 4, 1, 0] rfl)
            · replace hf := if_t c_60 hf
              refine lv_aload_n hx hb dX4_whatIs_69 rfl (lv_at hl 0 rfl) ?_
              refine va_get (D := D) (ci := 4) (v := .ref (A 10)) (C := RX4) (T := TX4) (N := 8) hx hb hts hw4 hown hK hP 0 cX_at0 rfl 1 (by decide) k16 (fun _ h9 => h9) rfl dX4_whatIs_70 ?_
              refine va_get (D := D) (ci := 0) (v := .ref (A 14)) (C := RX0) (T := TX0) (N := 12) hx hb hts hw0 hown hK hP 10 cX_at10 rfl 5 (by decide) k95 (fun _ h9 => h9) rfl dX4_whatIs_73 ?_
              refine lv_iload_n hx hb dX4_whatIs_76 rfl (lv_at hl 1 rfl) ?_
              refine lv_iload hx hb dX4_whatIs_77 (lv_at hl 4 rfl) ?_
              obtain ⟨c_68, hf⟩ := gi_e hf
              refine va_iast hx hb hK hP hD hS 14 0 cX_at14 rfl c_68 dX4_whatIs_79 (fun H locs hP hD hS => ?_)
              obtain ⟨h_69, eh_69, hf⟩ := nm_e hf
              rw [cX_su14, ← eh_69] at hP hD
              refine lv_goto (tgt := 94) hx hb dX4_whatIs_80 (by decide) ?_
              refine lv_aload_n hx hb dX4_whatIs_94 rfl (lv_at hl 0 rfl) ?_
              refine lv_iload_n hx hb dX4_whatIs_95 rfl (lv_at hl 1 rfl) ?_
              obtain ⟨a_70, ha_70, hf⟩ := bd_e hf
              refine Ct.callV (As := [.int p1]) (rest := []) (st1 := [.int a_70.1]) (c_X4_rowTellsWordOf l D cI A n h_69 k g w z q p1 a_70 ha_70) hx hb hml hown hts (cwV 1 hts gX4_whatIs_X4_rowTellsWordOf rfl rfl rfl hd_X4_rowTellsWordOf ⟨Nat.le_of_ble_eq_true rfl, Nat.le_of_ble_eq_true rfl⟩) (va_recv hK hP (ci := 4) (q0 := 0) rfl cX_at0) (Ln.id rfl) hA hK hP hD hS rfl hl.1 rfl rfl (Nat.le_of_ble_eq_true rfl) dX4_whatIs_96 (fun H locs hP hD hS => ?_)
              replace hP : va_P D vwCl (cX cI A n a_70.2 k g w z q) H := hP
              replace hD : va_D AA (cX cI A n a_70.2 k g w z q) := hD
              refine lv_if_eq (tgt := 109) hx hb dX4_whatIs_99 (by decide) (fun c_71 => ?_) (fun c_71 => ?_)
              · replace hf := if_t c_71 hf
                obtain ⟨v_72, ev_72, hf⟩ := nm_e hf
                refine lv_iinc (v := v_72) (lv' := [(4, .int v_72), (0, .ref (A 0)), (1, .int p1), (2, .int p2), (3, .int q38.1)]) hx hb dX4_whatIs_109 hl (k := 4) rfl (by rw [ev_72]; rfl) (by decide) rfl (fun ls hl => ?_)
                refine lv_goto (tgt := 38) hx hb dX4_whatIs_112 (by decide) ?_
                exact ih38 (q38.1, v_72, a_70.2) hf H locs ls hP hD hS (lv_sub hl [1, 2, 3, 4, 0] rfl)
              · replace hf := if_f c_71 hf
                refine lv_iload_n hx hb dX4_whatIs_102 rfl (lv_at hl 3 rfl) ?_
                refine lv_iconst (v := 1) hx hb dX4_whatIs_103 (by decide) ?_
                refine lv_iload hx hb dX4_whatIs_104 (lv_at hl 4 rfl) ?_
                refine lv_ishl hx hb dX4_whatIs_106 ?_
                refine lv_ior hx hb dX4_whatIs_107 ?_
                refine lv_topi (fun v_73 ev_73 => ?_)
                replace hf := nm_at ev_73 hf
                refine lv_istore_n (lv' := [(3, .int v_73), (0, .ref (A 0)), (1, .int p1), (2, .int p2), (4, .int q38.2.1)]) hx hb dX4_whatIs_108 rfl hl (by decide) rfl (fun ls hl => ?_)
                obtain ⟨v_74, ev_74, hf⟩ := nm_e hf
                refine lv_iinc (v := v_74) (lv' := [(4, .int v_74), (3, .int v_73), (0, .ref (A 0)), (1, .int p1), (2, .int p2)]) hx hb dX4_whatIs_109 hl (k := 4) rfl (by rw [ev_74]; rfl) (by decide) rfl (fun ls hl => ?_)
                refine lv_goto (tgt := 38) hx hb dX4_whatIs_112 (by decide) ?_
                exact ih38 (v_73, v_74, a_70.2) hf H locs ls hP hD hS (lv_sub hl [2, 3, 4, 1, 0] rfl)
      · replace hf := if_f c_39 hf
        refine lv_aload_n hx hb dX4_whatIs_26 rfl (lv_at hl 0 rfl) ?_
        refine lv_bipush (v := -2) hx hb dX4_whatIs_27 (by decide +kernel) ?_
        obtain ⟨a_75, ha_75, hf⟩ := bd_e hf
        refine Ct.callV (As := [.int (-2 : Int32)]) (rest := []) (st1 := [.int a_75.1]) (c_X4_refused l D cI A n t k g w z q (-2 : Int32) a_75 ha_75) hx hb hml hown hts (cwV 1 hts gX4_whatIs_X4_refused rfl rfl rfl hd_X4_refused ⟨Nat.le_of_ble_eq_true rfl, Nat.le_of_ble_eq_true rfl⟩) (va_recv hK hP (ci := 4) (q0 := 0) rfl cX_at0) (Ln.id rfl) hA hK hP hD hS rfl hl.1 rfl rfl (Nat.le_of_ble_eq_true rfl) dX4_whatIs_29 (fun H locs hP hD hS => ?_)
        replace hP : va_P D vwCl (cX cI A n t k g w z a_75.2) H := hP
        replace hD : va_D AA (cX cI A n t k g w z a_75.2) := hD
        exact hend (a_75.1, t, a_75.2) H locs _ _ hf hP hS dX4_whatIs_32
  · replace hf := if_t c_2 hf
    refine lv_aload_n hx hb dX4_whatIs_11 rfl (lv_at hl 0 rfl) ?_
    refine lv_iconst (v := -1) hx hb dX4_whatIs_12 (by decide) ?_
    obtain ⟨a_76, ha_76, hf⟩ := bd_e hf
    refine Ct.callV (As := [.int (-1 : Int32)]) (rest := []) (st1 := [.int a_76.1]) (c_X4_refused l D cI A n t k g w z q (-1 : Int32) a_76 ha_76) hx hb hml hown hts (cwV 1 hts gX4_whatIs_X4_refused rfl rfl rfl hd_X4_refused ⟨Nat.le_of_ble_eq_true rfl, Nat.le_of_ble_eq_true rfl⟩) (va_recv hK hP (ci := 4) (q0 := 0) rfl cX_at0) (Ln.id rfl) hA hK hP hD hS rfl hl.1 rfl rfl (Nat.le_of_ble_eq_true rfl) dX4_whatIs_13 (fun H locs hP hD hS => ?_)
    replace hP : va_P D vwCl (cX cI A n t k g w z a_76.2) H := hP
    replace hD : va_D AA (cX cI A n t k g w z a_76.2) := hD
    exact hend (a_76.1, t, a_76.2) H locs _ _ hf hP hS dX4_whatIs_16

def f_X4_row (n : St) (t : St) (k : St) (g : St) (w : St) (z : St) (q : St) (p1 : Int32) : Option (Int32 × St × St) := (if 0 ≤ p1 then (if (99 : Int32) < p1 then (bd (f_X4_refused n t k g w z q (-6 : Int32)) fun a_3 => (some (a_3.1, w, a_3.2))) else (bd (f_X3_isFull w) fun a_4 => (if a_4 = 0 then (bd (f_X3_add w p1) fun a_6 => (some (a_6.1, a_6.2, q))) else (bd (f_X4_refused n t k g w z q (-6 : Int32)) fun a_7 => (some (a_7.1, w, a_7.2)))))) else (bd (f_X4_refused n t k g w z q (-4 : Int32)) fun a_8 => (some (a_8.1, w, a_8.2))))
def rm_X4_row : Room := { frames := 1, cells := 0, slots := 0, locals := 22 }
theorem hd_X4_row : yX4_row.cls = RX4 ∧ yX4_row.cls ≠ "java/lang/invoke/MethodHandle" ∧ yX4_row.cls ≠ "java/lang/invoke/VarHandle" ∧ (parseMethodDescriptor yX4_row.desc).map (fun d => d.parameters.length) = some 1 := by decide +kernel
set_option maxRecDepth 100000 in
set_option maxHeartbeats 4000000 in
theorem c_X4_row (l : Launch) (D : va_G) (cI : ClassId) (A : Nat → Nat) (n : St) (t : St) (k : St) (g : St) (w : St) (z : St) (q : St) (p1 : Int32) (r : Int32 × St × St) (hf : f_X4_row n t k g w z q p1 = some r) : Ct l yX4_row wsX4_row rm_X4_row D cI (cX cI A n t k g w z q) (cX cI A n t k g r.2.1 z r.2.2) [.ref (A 0), .int p1] (some (.int r.1)) := by
  unfold f_X4_row at hf
  refine Ct.ofI (cc := cX4_row) (maxL := 2) (by decide +kernel) rfl (Nat.le_of_ble_eq_true rfl) ?_
  intro p e s m args below meth c AA Q H locs ls hx hb hml hown hts hA hK hP hD hS hl hend0
  have hend : ∀ (r1 : Int32 × St × St) (H : Heap) (locs : List Loc) (pc : Nat) (ls : Array Slot), some r1 = some r → va_P D vwCl (cX cI A n t k g r1.2.1 z r1.2.2) H → va_S AA s.heap H locs → decode cX4_row pc = .ok (.ireturn, 1) → W p l e rm_X4_row s m args below meth c H locs 0 0 Q (F0 m pc ls [.int r1.1]) := by
    intro r1 H locs pc ls e1 hP hS hd; cases e1; exact hend0 H locs pc ls hP hS hd
  clear hend0
  have hw4 : ∀ w ∈ wsX40, w ∈ wsX4_row := by decide +kernel
  have k32 := hts (.fieldLink RX4 32 "AnchorsForConfession" "told" "LAnchorsForConfession$Row;") (by decide +kernel)
  replace hl : lv_has ls 2 [(0, .ref (A 0)), (1, .int p1)] := hl
  refine lv_iload_n hx hb dX4_row_0 rfl (lv_at hl 1 rfl) ?_
  refine lv_if_ge (tgt := 11) hx hb dX4_row_1 (by decide) (fun c_1 => ?_) (fun c_1 => ?_)
  · replace hf := if_t c_1 hf
    refine lv_iload_n hx hb dX4_row_11 rfl (lv_at hl 1 rfl) ?_
    refine lv_bipush (v := 99) hx hb dX4_row_12 (by decide +kernel) ?_
    refine lv_icmp_gt (tgt := 27) hx hb dX4_row_14 (by decide) (fun c_2 => ?_) (fun c_2 => ?_)
    · replace hf := if_t c_2 hf
      refine lv_aload_n hx hb dX4_row_27 rfl (lv_at hl 0 rfl) ?_
      refine lv_bipush (v := -6) hx hb dX4_row_28 (by decide +kernel) ?_
      obtain ⟨a_3, ha_3, hf⟩ := bd_e hf
      refine Ct.callV (As := [.int (-6 : Int32)]) (rest := []) (st1 := [.int a_3.1]) (c_X4_refused l D cI A n t k g w z q (-6 : Int32) a_3 ha_3) hx hb hml hown hts (cwV 1 hts gX4_row_X4_refused rfl rfl rfl hd_X4_refused ⟨Nat.le_of_ble_eq_true rfl, Nat.le_of_ble_eq_true rfl⟩) (va_recv hK hP (ci := 4) (q0 := 0) rfl cX_at0) (Ln.id rfl) hA hK hP hD hS rfl hl.1 rfl rfl (Nat.le_of_ble_eq_true rfl) dX4_row_30 (fun H locs hP hD hS => ?_)
      replace hP : va_P D vwCl (cX cI A n t k g w z a_3.2) H := hP
      replace hD : va_D AA (cX cI A n t k g w z a_3.2) := hD
      exact hend (a_3.1, w, a_3.2) H locs _ _ hf hP hS dX4_row_33
    · replace hf := if_f c_2 hf
      refine lv_aload_n hx hb dX4_row_17 rfl (lv_at hl 0 rfl) ?_
      refine va_get (D := D) (ci := 4) (v := .ref (A 30)) (C := RX4) (T := TX4) (N := 8) hx hb hts hw4 hown hK hP 0 cX_at0 rfl 4 (by decide) k32 (fun _ h9 => h9) rfl dX4_row_18 ?_
      obtain ⟨a_4, ha_4, hf⟩ := bd_e hf
      refine Ct.callV (As := []) (rest := []) (st1 := [.int a_4]) (c_X3_isFull l D cI (fun j => A (30 + j)) w a_4 ha_4) hx hb hml hown hts (cwV 0 hts gX4_row_X3_isFull rfl rfl rfl hd_X3_isFull ⟨Nat.le_of_ble_eq_true rfl, Nat.le_of_ble_eq_true rfl⟩) (va_recv hK hP (ci := 3) (q0 := 30) rfl cX_at30) ln_X_R hA hK hP hD hS rfl hl.1 rfl rfl (Nat.le_of_ble_eq_true rfl) dX4_row_21 (fun H locs hP hD hS => ?_)
      refine lv_if_eq (tgt := 34) hx hb dX4_row_24 (by decide) (fun c_5 => ?_) (fun c_5 => ?_)
      · replace hf := if_t c_5 hf
        refine lv_aload_n hx hb dX4_row_34 rfl (lv_at hl 0 rfl) ?_
        refine va_get (D := D) (ci := 4) (v := .ref (A 30)) (C := RX4) (T := TX4) (N := 8) hx hb hts hw4 hown hK hP 0 cX_at0 rfl 4 (by decide) k32 (fun _ h9 => h9) rfl dX4_row_35 ?_
        refine lv_iload_n hx hb dX4_row_38 rfl (lv_at hl 1 rfl) ?_
        obtain ⟨a_6, ha_6, hf⟩ := bd_e hf
        refine Ct.callV (As := [.int p1]) (rest := []) (st1 := [.int a_6.1]) (c_X3_add l D cI (fun j => A (30 + j)) w p1 a_6 ha_6) hx hb hml hown hts (cwV 1 hts gX4_row_X3_add rfl rfl rfl hd_X3_add ⟨Nat.le_of_ble_eq_true rfl, Nat.le_of_ble_eq_true rfl⟩) (va_recv hK hP (ci := 3) (q0 := 30) rfl cX_at30) ln_X_R hA hK hP hD hS rfl hl.1 rfl rfl (Nat.le_of_ble_eq_true rfl) dX4_row_39 (fun H locs hP hD hS => ?_)
        replace hP : va_P D vwCl (cX cI A n t k g a_6.2 z q) H := hP
        replace hD : va_D AA (cX cI A n t k g a_6.2 z q) := hD
        exact hend (a_6.1, a_6.2, q) H locs _ _ hf hP hS dX4_row_42
      · replace hf := if_f c_5 hf
        refine lv_aload_n hx hb dX4_row_27 rfl (lv_at hl 0 rfl) ?_
        refine lv_bipush (v := -6) hx hb dX4_row_28 (by decide +kernel) ?_
        obtain ⟨a_7, ha_7, hf⟩ := bd_e hf
        refine Ct.callV (As := [.int (-6 : Int32)]) (rest := []) (st1 := [.int a_7.1]) (c_X4_refused l D cI A n t k g w z q (-6 : Int32) a_7 ha_7) hx hb hml hown hts (cwV 1 hts gX4_row_X4_refused rfl rfl rfl hd_X4_refused ⟨Nat.le_of_ble_eq_true rfl, Nat.le_of_ble_eq_true rfl⟩) (va_recv hK hP (ci := 4) (q0 := 0) rfl cX_at0) (Ln.id rfl) hA hK hP hD hS rfl hl.1 rfl rfl (Nat.le_of_ble_eq_true rfl) dX4_row_30 (fun H locs hP hD hS => ?_)
        replace hP : va_P D vwCl (cX cI A n t k g w z a_7.2) H := hP
        replace hD : va_D AA (cX cI A n t k g w z a_7.2) := hD
        exact hend (a_7.1, w, a_7.2) H locs _ _ hf hP hS dX4_row_33
  · replace hf := if_f c_1 hf
    refine lv_aload_n hx hb dX4_row_4 rfl (lv_at hl 0 rfl) ?_
    refine lv_bipush (v := -4) hx hb dX4_row_5 (by decide +kernel) ?_
    obtain ⟨a_8, ha_8, hf⟩ := bd_e hf
    refine Ct.callV (As := [.int (-4 : Int32)]) (rest := []) (st1 := [.int a_8.1]) (c_X4_refused l D cI A n t k g w z q (-4 : Int32) a_8 ha_8) hx hb hml hown hts (cwV 1 hts gX4_row_X4_refused rfl rfl rfl hd_X4_refused ⟨Nat.le_of_ble_eq_true rfl, Nat.le_of_ble_eq_true rfl⟩) (va_recv hK hP (ci := 4) (q0 := 0) rfl cX_at0) (Ln.id rfl) hA hK hP hD hS rfl hl.1 rfl rfl (Nat.le_of_ble_eq_true rfl) dX4_row_7 (fun H locs hP hD hS => ?_)
    replace hP : va_P D vwCl (cX cI A n t k g w z a_8.2) H := hP
    replace hD : va_D AA (cX cI A n t k g w z a_8.2) := hD
    exact hend (a_8.1, w, a_8.2) H locs _ _ hf hP hS dX4_row_10

def f_X4_judge (n : St) (t : St) (k : St) (g : St) (w : St) (z : St) (q : St) : Option (Int32 × St) := (bd (f_X3_firstNotHeldAsIn w n) fun a_1 => (bd (f_X3_drop w) fun a_2 => (some (a_1, a_2.2))))
def rm_X4_judge : Room := { frames := 3, cells := 0, slots := 0, locals := 64 }
theorem hd_X4_judge : yX4_judge.cls = RX4 ∧ yX4_judge.cls ≠ "java/lang/invoke/MethodHandle" ∧ yX4_judge.cls ≠ "java/lang/invoke/VarHandle" ∧ (parseMethodDescriptor yX4_judge.desc).map (fun d => d.parameters.length) = some 0 := by decide +kernel
set_option maxRecDepth 100000 in
set_option maxHeartbeats 4000000 in
theorem c_X4_judge (l : Launch) (D : va_G) (cI : ClassId) (A : Nat → Nat) (n : St) (t : St) (k : St) (g : St) (w : St) (z : St) (q : St) (r : Int32 × St) (hf : f_X4_judge n t k g w z q = some r) : Ct l yX4_judge wsX4_judge rm_X4_judge D cI (cX cI A n t k g w z q) (cX cI A n t k g r.2 z q) [.ref (A 0)] (some (.int r.1)) := by
  unfold f_X4_judge at hf
  refine Ct.ofI (cc := cX4_judge) (maxL := 2) (by decide +kernel) rfl (Nat.le_of_ble_eq_true rfl) ?_
  intro p e s m args below meth c AA Q H locs ls hx hb hml hown hts hA hK hP hD hS hl hend0
  have hend : ∀ (r1 : Int32 × St) (H : Heap) (locs : List Loc) (pc : Nat) (ls : Array Slot), some r1 = some r → va_P D vwCl (cX cI A n t k g r1.2 z q) H → va_S AA s.heap H locs → decode cX4_judge pc = .ok (.ireturn, 1) → W p l e rm_X4_judge s m args below meth c H locs 0 0 Q (F0 m pc ls [.int r1.1]) := by
    intro r1 H locs pc ls e1 hP hS hd; cases e1; exact hend0 H locs pc ls hP hS hd
  clear hend0
  have hw4 : ∀ w ∈ wsX40, w ∈ wsX4_judge := by decide +kernel
  have k10 := hts (.fieldLink RX4 10 "AnchorsForConfession" "now" "LAnchorsForConfession$Harbour;") (by decide +kernel)
  have k32 := hts (.fieldLink RX4 32 "AnchorsForConfession" "told" "LAnchorsForConfession$Row;") (by decide +kernel)
  replace hl : lv_has ls 2 [(0, .ref (A 0))] := hl
  refine lv_aload_n hx hb dX4_judge_0 rfl (lv_at hl 0 rfl) ?_
  refine va_get (D := D) (ci := 4) (v := .ref (A 30)) (C := RX4) (T := TX4) (N := 8) hx hb hts hw4 hown hK hP 0 cX_at0 rfl 4 (by decide) k32 (fun _ h9 => h9) rfl dX4_judge_1 ?_
  refine lv_aload_n hx hb dX4_judge_4 rfl (lv_at hl 0 rfl) ?_
  refine va_get (D := D) (ci := 4) (v := .ref (A 1)) (C := RX4) (T := TX4) (N := 8) hx hb hts hw4 hown hK hP 0 cX_at0 rfl 0 (by decide) k10 (fun _ h9 => h9) rfl dX4_judge_5 ?_
  obtain ⟨a_1, ha_1, hf⟩ := bd_e hf
  refine Ct.callV (As := [.ref (A 1)]) (rest := []) (st1 := [.int a_1]) (c_X3_firstNotHeldAsIn l D cI (fun j => A (30 + j)) (fun j => A (1 + j)) w n a_1 ha_1) hx hb hml hown hts (cwV 1 hts gX4_judge_X3_firstNotHeldAsIn rfl rfl rfl hd_X3_firstNotHeldAsIn ⟨Nat.le_of_ble_eq_true rfl, Nat.le_of_ble_eq_true rfl⟩) (va_recv hK hP (ci := 3) (q0 := 30) rfl cX_at30) ln_X_RH_n hA hK hP hD hS rfl hl.1 rfl rfl (Nat.le_of_ble_eq_true rfl) dX4_judge_8 (fun H locs hP hD hS => ?_)
  refine lv_istore_n (lv' := [(1, .int a_1), (0, .ref (A 0))]) hx hb dX4_judge_11 rfl hl (by decide) rfl (fun ls hl => ?_)
  refine lv_aload_n hx hb dX4_judge_12 rfl (lv_at hl 1 rfl) ?_
  refine va_get (D := D) (ci := 4) (v := .ref (A 30)) (C := RX4) (T := TX4) (N := 8) hx hb hts hw4 hown hK hP 0 cX_at0 rfl 4 (by decide) k32 (fun _ h9 => h9) rfl dX4_judge_13 ?_
  obtain ⟨a_2, ha_2, hf⟩ := bd_e hf
  refine Ct.callV (As := []) (rest := []) (st1 := [.int a_2.1]) (c_X3_drop l D cI (fun j => A (30 + j)) w a_2 ha_2) hx hb hml hown hts (cwV 0 hts gX4_judge_X3_drop rfl rfl rfl hd_X3_drop ⟨Nat.le_of_ble_eq_true rfl, Nat.le_of_ble_eq_true rfl⟩) (va_recv hK hP (ci := 3) (q0 := 30) rfl cX_at30) ln_X_R hA hK hP hD hS rfl hl.1 rfl rfl (Nat.le_of_ble_eq_true rfl) dX4_judge_16 (fun H locs hP hD hS => ?_)
  replace hP : va_P D vwCl (cX cI A n t k g a_2.2 z q) H := hP
  replace hD : va_D AA (cX cI A n t k g a_2.2 z q) := hD
  refine lv_pop hx hb dX4_judge_19 rfl ?_
  refine lv_iload_n hx hb dX4_judge_20 rfl (lv_at hl 0 rfl) ?_
  exact hend (a_1, a_2.2) H locs _ _ hf hP hS dX4_judge_21

def f_X4_clear (n : St) (t : St) (k : St) (g : St) (w : St) (z : St) (q : St) : Option (Int32 × St) := (bd (f_X3_drop w) fun a_1 => (some (a_1.1, a_1.2)))
def rm_X4_clear : Room := { frames := 1, cells := 0, slots := 0, locals := 21 }
theorem hd_X4_clear : yX4_clear.cls = RX4 ∧ yX4_clear.cls ≠ "java/lang/invoke/MethodHandle" ∧ yX4_clear.cls ≠ "java/lang/invoke/VarHandle" ∧ (parseMethodDescriptor yX4_clear.desc).map (fun d => d.parameters.length) = some 0 := by decide +kernel
set_option maxRecDepth 100000 in
set_option maxHeartbeats 4000000 in
theorem c_X4_clear (l : Launch) (D : va_G) (cI : ClassId) (A : Nat → Nat) (n : St) (t : St) (k : St) (g : St) (w : St) (z : St) (q : St) (r : Int32 × St) (hf : f_X4_clear n t k g w z q = some r) : Ct l yX4_clear wsX4_clear rm_X4_clear D cI (cX cI A n t k g w z q) (cX cI A n t k g r.2 z q) [.ref (A 0)] (some (.int r.1)) := by
  unfold f_X4_clear at hf
  refine Ct.ofI (cc := cX4_clear) (maxL := 1) (by decide +kernel) rfl (Nat.le_of_ble_eq_true rfl) ?_
  intro p e s m args below meth c AA Q H locs ls hx hb hml hown hts hA hK hP hD hS hl hend0
  have hend : ∀ (r1 : Int32 × St) (H : Heap) (locs : List Loc) (pc : Nat) (ls : Array Slot), some r1 = some r → va_P D vwCl (cX cI A n t k g r1.2 z q) H → va_S AA s.heap H locs → decode cX4_clear pc = .ok (.ireturn, 1) → W p l e rm_X4_clear s m args below meth c H locs 0 0 Q (F0 m pc ls [.int r1.1]) := by
    intro r1 H locs pc ls e1 hP hS hd; cases e1; exact hend0 H locs pc ls hP hS hd
  clear hend0
  have hw4 : ∀ w ∈ wsX40, w ∈ wsX4_clear := by decide +kernel
  have k32 := hts (.fieldLink RX4 32 "AnchorsForConfession" "told" "LAnchorsForConfession$Row;") (by decide +kernel)
  replace hl : lv_has ls 1 [(0, .ref (A 0))] := hl
  refine lv_aload_n hx hb dX4_clear_0 rfl (lv_at hl 0 rfl) ?_
  refine va_get (D := D) (ci := 4) (v := .ref (A 30)) (C := RX4) (T := TX4) (N := 8) hx hb hts hw4 hown hK hP 0 cX_at0 rfl 4 (by decide) k32 (fun _ h9 => h9) rfl dX4_clear_1 ?_
  obtain ⟨a_1, ha_1, hf⟩ := bd_e hf
  refine Ct.callV (As := []) (rest := []) (st1 := [.int a_1.1]) (c_X3_drop l D cI (fun j => A (30 + j)) w a_1 ha_1) hx hb hml hown hts (cwV 0 hts gX4_clear_X3_drop rfl rfl rfl hd_X3_drop ⟨Nat.le_of_ble_eq_true rfl, Nat.le_of_ble_eq_true rfl⟩) (va_recv hK hP (ci := 3) (q0 := 30) rfl cX_at30) ln_X_R hA hK hP hD hS rfl hl.1 rfl rfl (Nat.le_of_ble_eq_true rfl) dX4_clear_4 (fun H locs hP hD hS => ?_)
  replace hP : va_P D vwCl (cX cI A n t k g a_1.2 z q) H := hP
  replace hD : va_D AA (cX cI A n t k g a_1.2 z q) := hD
  exact hend (a_1.1, a_1.2) H locs _ _ hf hP hS dX4_clear_7

def f_X4_season (n : St) (t : St) (k : St) (g : St) (w : St) (z : St) (q : St) : Option (Int32 × St × St) := (lp (fun (nx4 : (Int32 × Int32 × St × St) → Option (Int32 × St × St)) (q4 : Int32 × Int32 × St × St) => (if (12 : Int32) ≤ q4.2.1 then (some (q4.1, q4.2.2.1, q4.2.2.2)) else (bd (f_X2_drawBelow q4.2.2.2 (q4.2.2.1 16 1)) fun a_2 => (bd (f_X0_word q4.2.2.1 a_2.1) fun a_3 => (nm (q4.1 + a_3.1) fun v_4 => (bd (f_X0_passTides a_3.2 (1 : Int32)) fun a_5 => (nm (q4.2.1 + (1 : Int32)) fun v_6 => (nx4 (v_4, v_6, a_5, a_2.2))))))))) 1000 ((0 : Int32), (0 : Int32), t, z))
def rm_X4_season : Room := { frames := 4, cells := 0, slots := 0, locals := 89 }
theorem hd_X4_season : yX4_season.cls = RX4 ∧ yX4_season.cls ≠ "java/lang/invoke/MethodHandle" ∧ yX4_season.cls ≠ "java/lang/invoke/VarHandle" ∧ (parseMethodDescriptor yX4_season.desc).map (fun d => d.parameters.length) = some 0 := by decide +kernel
set_option maxRecDepth 100000 in
set_option maxHeartbeats 4000000 in
theorem c_X4_season (l : Launch) (D : va_G) (cI : ClassId) (A : Nat → Nat) (n : St) (t : St) (k : St) (g : St) (w : St) (z : St) (q : St) (r : Int32 × St × St) (hf : f_X4_season n t k g w z q = some r) : Ct l yX4_season wsX4_season rm_X4_season D cI (cX cI A n t k g w z q) (cX cI A n r.2.1 k g w r.2.2 q) [.ref (A 0)] (some (.int r.1)) := by
  unfold f_X4_season at hf
  refine Ct.ofI (cc := cX4_season) (maxL := 3) (by decide +kernel) rfl (Nat.le_of_ble_eq_true rfl) ?_
  intro p e s m args below meth c AA Q H locs ls hx hb hml hown hts hA hK hP hD hS hl hend0
  have hend : ∀ (r1 : Int32 × St × St) (H : Heap) (locs : List Loc) (pc : Nat) (ls : Array Slot), some r1 = some r → va_P D vwCl (cX cI A n r1.2.1 k g w r1.2.2 q) H → va_S AA s.heap H locs → decode cX4_season pc = .ok (.ireturn, 1) → W p l e rm_X4_season s m args below meth c H locs 0 0 Q (F0 m pc ls [.int r1.1]) := by
    intro r1 H locs pc ls e1 hP hS hd; cases e1; exact hend0 H locs pc ls hP hS hd
  clear hend0
  have hw0 : ∀ w ∈ wsX00, w ∈ wsX4_season := by decide +kernel
  have hw4 : ∀ w ∈ wsX40, w ∈ wsX4_season := by decide +kernel
  have k16 := hts (.fieldLink RX4 16 "AnchorsForConfession" "thought" "LAnchorsForConfession$Harbour;") (by decide +kernel)
  have k39 := hts (.fieldLink RX4 39 "AnchorsForConfession" "lot" "LAnchorsForConfession$Lot;") (by decide +kernel)
  have k158 := hts (.fieldLink RX4 158 "AnchorsForConfession$Harbour" "men" "I") (by decide +kernel)
  replace hl : lv_has ls 3 [(0, .ref (A 0))] := hl
  refine lv_iconst (v := 0) hx hb dX4_season_0 (by decide) ?_
  refine lv_istore_n (lv' := [(1, .int (0 : Int32)), (0, .ref (A 0))]) hx hb dX4_season_1 rfl hl (by decide) rfl (fun ls hl => ?_)
  refine lv_iconst (v := 0) hx hb dX4_season_2 (by decide) ?_
  refine lv_istore_n (lv' := [(2, .int (0 : Int32)), (1, .int (0 : Int32)), (0, .ref (A 0))]) hx hb dX4_season_3 rfl hl (by decide) rfl (fun ls hl => ?_)
  refine lp_ind (P := fun (q4 : Int32 × Int32 × St × St) => ∀ (H : Heap) (locs : List Loc) (ls : Array Slot), va_P D vwCl (cX cI A n q4.2.2.1 k g w q4.2.2.2 q) H → va_D AA (cX cI A n q4.2.2.1 k g w q4.2.2.2 q) → va_S AA s.heap H locs → lv_has ls 3 [(0, .ref (A 0)), (1, .int q4.1), (2, .int q4.2.1)] → W p l e rm_X4_season s m args below meth c H locs 0 0 Q (F0 m 4 ls [])) hf ?_ H locs ls hP hD hS (lv_sub hl [2, 1, 0] rfl)
  clear hf hP hD hS hl
  intro nx4 ih4 q4 hf H locs ls hP hD hS hl
  refine lv_iload_n hx hb dX4_season_4 rfl (lv_at hl 2 rfl) ?_
  refine lv_bipush (v := 12) hx hb dX4_season_5 (by decide +kernel) ?_
  refine lv_icmp_ge (tgt := 48) hx hb dX4_season_7 (by decide) (fun c_1 => ?_) (fun c_1 => ?_)
  · replace hf := if_t c_1 hf
    refine lv_iload_n hx hb dX4_season_48 rfl (lv_at hl 1 rfl) ?_
    exact hend (q4.1, q4.2.2.1, q4.2.2.2) H locs _ _ hf hP hS dX4_season_49
  · replace hf := if_f c_1 hf
    refine lv_iload_n hx hb dX4_season_10 rfl (lv_at hl 1 rfl) ?_
    refine lv_aload_n hx hb dX4_season_11 rfl (lv_at hl 0 rfl) ?_
    refine va_get (D := D) (ci := 4) (v := .ref (A 10)) (C := RX4) (T := TX4) (N := 8) hx hb hts hw4 hown hK hP 0 cX_at0 rfl 1 (by decide) k16 (fun _ h9 => h9) rfl dX4_season_12 ?_
    refine lv_aload_n hx hb dX4_season_15 rfl (lv_at hl 0 rfl) ?_
    refine va_get (D := D) (ci := 4) (v := .ref (A 32)) (C := RX4) (T := TX4) (N := 8) hx hb hts hw4 hown hK hP 0 cX_at0 rfl 5 (by decide) k39 (fun _ h9 => h9) rfl dX4_season_16 ?_
    refine lv_aload_n hx hb dX4_season_19 rfl (lv_at hl 0 rfl) ?_
    refine va_get (D := D) (ci := 4) (v := .ref (A 10)) (C := RX4) (T := TX4) (N := 8) hx hb hts hw4 hown hK hP 0 cX_at0 rfl 1 (by decide) k16 (fun _ h9 => h9) rfl dX4_season_20 ?_
    refine va_get (D := D) (ci := 0) (v := .int (q4.2.2.1 16 1)) (C := RX0) (T := TX0) (N := 12) hx hb hts hw0 hown hK hP 10 cX_at10 rfl 4 (by decide) k158 (fun _ h9 => h9) rfl dX4_season_23 ?_
    obtain ⟨a_2, ha_2, hf⟩ := bd_e hf
    refine Ct.callV (As := [.int (q4.2.2.1 16 1)]) (rest := [.ref (A 10), .int q4.1]) (st1 := [.int a_2.1, .ref (A 10), .int q4.1]) (c_X2_drawBelow l D cI (fun j => A (32 + j)) q4.2.2.2 (q4.2.2.1 16 1) a_2 ha_2) hx hb hml hown hts (cwV 1 hts gX4_season_X2_drawBelow rfl rfl rfl hd_X2_drawBelow ⟨Nat.le_of_ble_eq_true rfl, Nat.le_of_ble_eq_true rfl⟩) (va_recv hK hP (ci := 2) (q0 := 32) rfl cX_at32) ln_X_Z hA hK hP hD hS rfl hl.1 rfl rfl (Nat.le_of_ble_eq_true rfl) dX4_season_26 (fun H locs hP hD hS => ?_)
    replace hP : va_P D vwCl (cX cI A n q4.2.2.1 k g w a_2.2 q) H := hP
    replace hD : va_D AA (cX cI A n q4.2.2.1 k g w a_2.2 q) := hD
    obtain ⟨a_3, ha_3, hf⟩ := bd_e hf
    refine Ct.callV (As := [.int a_2.1]) (rest := [.int q4.1]) (st1 := [.int a_3.1, .int q4.1]) (c_X0_word l D cI (fun j => A (10 + j)) q4.2.2.1 a_2.1 a_3 ha_3) hx hb hml hown hts (cwV 1 hts gX4_season_X0_word rfl rfl rfl hd_X0_word ⟨Nat.le_of_ble_eq_true rfl, Nat.le_of_ble_eq_true rfl⟩) (va_recv hK hP (ci := 0) (q0 := 10) rfl cX_at10) ln_X_H_t hA hK hP hD hS rfl hl.1 rfl rfl (Nat.le_of_ble_eq_true rfl) dX4_season_29 (fun H locs hP hD hS => ?_)
    replace hP : va_P D vwCl (cX cI A n a_3.2 k g w a_2.2 q) H := hP
    replace hD : va_D AA (cX cI A n a_3.2 k g w a_2.2 q) := hD
    refine lv_iadd hx hb dX4_season_32 ?_
    refine lv_topi (fun v_4 ev_4 => ?_)
    replace hf := nm_at ev_4 hf
    refine lv_istore_n (lv' := [(1, .int v_4), (0, .ref (A 0)), (2, .int q4.2.1)]) hx hb dX4_season_33 rfl hl (by decide) rfl (fun ls hl => ?_)
    refine lv_aload_n hx hb dX4_season_34 rfl (lv_at hl 1 rfl) ?_
    refine va_get (D := D) (ci := 4) (v := .ref (A 10)) (C := RX4) (T := TX4) (N := 8) hx hb hts hw4 hown hK hP 0 cX_at0 rfl 1 (by decide) k16 (fun _ h9 => h9) rfl dX4_season_35 ?_
    refine lv_iconst (v := 1) hx hb dX4_season_38 (by decide) ?_
    obtain ⟨a_5, ha_5, hf⟩ := bd_e hf
    refine Ct.callV (As := [.int (1 : Int32)]) (rest := []) (st1 := []) (c_X0_passTides l D cI (fun j => A (10 + j)) a_3.2 (1 : Int32) a_5 ha_5) hx hb hml hown hts (cwV 1 hts gX4_season_X0_passTides rfl rfl rfl hd_X0_passTides ⟨Nat.le_of_ble_eq_true rfl, Nat.le_of_ble_eq_true rfl⟩) (va_recv hK hP (ci := 0) (q0 := 10) rfl cX_at10) ln_X_H_t hA hK hP hD hS rfl hl.1 rfl rfl (Nat.le_of_ble_eq_true rfl) dX4_season_39 (fun H locs hP hD hS => ?_)
    replace hP : va_P D vwCl (cX cI A n a_5 k g w a_2.2 q) H := hP
    replace hD : va_D AA (cX cI A n a_5 k g w a_2.2 q) := hD
    obtain ⟨v_6, ev_6, hf⟩ := nm_e hf
    refine lv_iinc (v := v_6) (lv' := [(2, .int v_6), (1, .int v_4), (0, .ref (A 0))]) hx hb dX4_season_42 hl (k := 2) rfl (by rw [ev_6]; rfl) (by decide) rfl (fun ls hl => ?_)
    refine lv_goto (tgt := 4) hx hb dX4_season_45 (by decide) ?_
    exact ih4 (v_4, v_6, a_5, a_2.2) hf H locs ls hP hD hS (lv_sub hl [2, 1, 0] rfl)

def f_X4_lots (n : St) (t : St) (k : St) (g : St) (w : St) (z : St) (q : St) (p1 : Int32) (p2 : Int32) (p3 : Int32) : Option (Int32 × St × St × St) := (if (1 : Int32) ≤ p1 then (if p1 ≤ (20 : Int32) then (if p3 = 0 then (if (n 16 1) = 0 then (bd (f_X4_refused n t k g w z q (-3 : Int32)) fun a_14 => (some (a_14.1, t, z, a_14.2))) else (nm (su z 0 0 p2) fun h_5 => (lp (fun (nx75 : (Int32 × Int32 × Int32 × St × St) → Option (Int32 × St × St × St)) (q75 : Int32 × Int32 × Int32 × St × St) => (if p1 ≤ q75.2.2.1 then (if p3 = 0 then (some (q75.1, q75.2.2.2.1, q75.2.2.2.2, q)) else (some (q75.2.1, q75.2.2.2.1, q75.2.2.2.2, q))) else (bd (f_X0_copyFrom q75.2.2.2.1 n) fun a_8 => (bd (f_X4_season n a_8 k g w q75.2.2.2.2 q) fun a_9 => (nm (q75.1 + a_9.1) fun v_10 => (bd (f_X0_allSins a_9.2.1) fun a_11 => (nm (q75.2.1 + a_11) fun v_12 => (nm (q75.2.2.1 + (1 : Int32)) fun v_13 => (nx75 (v_10, v_12, v_13, a_9.2.1, a_9.2.2)))))))))) 1000 ((0 : Int32), (0 : Int32), (0 : Int32), t, h_5)))) else (if p3 = (1 : Int32) then (if (n 16 1) = 0 then (bd (f_X4_refused n t k g w z q (-3 : Int32)) fun a_26 => (some (a_26.1, t, z, a_26.2))) else (nm (su z 0 0 p2) fun h_17 => (lp (fun (nx75 : (Int32 × Int32 × Int32 × St × St) → Option (Int32 × St × St × St)) (q75 : Int32 × Int32 × Int32 × St × St) => (if p1 ≤ q75.2.2.1 then (if p3 = 0 then (some (q75.1, q75.2.2.2.1, q75.2.2.2.2, q)) else (some (q75.2.1, q75.2.2.2.1, q75.2.2.2.2, q))) else (bd (f_X0_copyFrom q75.2.2.2.1 n) fun a_20 => (bd (f_X4_season n a_20 k g w q75.2.2.2.2 q) fun a_21 => (nm (q75.1 + a_21.1) fun v_22 => (bd (f_X0_allSins a_21.2.1) fun a_23 => (nm (q75.2.1 + a_23) fun v_24 => (nm (q75.2.2.1 + (1 : Int32)) fun v_25 => (nx75 (v_22, v_24, v_25, a_21.2.1, a_21.2.2)))))))))) 1000 ((0 : Int32), (0 : Int32), (0 : Int32), t, h_17)))) else (bd (f_X4_refused n t k g w z q (-2 : Int32)) fun a_27 => (some (a_27.1, t, z, a_27.2))))) else (bd (f_X4_refused n t k g w z q (-6 : Int32)) fun a_28 => (some (a_28.1, t, z, a_28.2)))) else (bd (f_X4_refused n t k g w z q (-4 : Int32)) fun a_29 => (some (a_29.1, t, z, a_29.2))))
def rm_X4_lots : Room := { frames := 5, cells := 0, slots := 0, locals := 111 }
theorem hd_X4_lots : yX4_lots.cls = RX4 ∧ yX4_lots.cls ≠ "java/lang/invoke/MethodHandle" ∧ yX4_lots.cls ≠ "java/lang/invoke/VarHandle" ∧ (parseMethodDescriptor yX4_lots.desc).map (fun d => d.parameters.length) = some 3 := by decide +kernel
set_option maxRecDepth 100000 in
set_option maxHeartbeats 4000000 in
theorem c_X4_lots (l : Launch) (D : va_G) (cI : ClassId) (A : Nat → Nat) (n : St) (t : St) (k : St) (g : St) (w : St) (z : St) (q : St) (p1 : Int32) (p2 : Int32) (p3 : Int32) (r : Int32 × St × St × St) (hf : f_X4_lots n t k g w z q p1 p2 p3 = some r) : Ct l yX4_lots wsX4_lots rm_X4_lots D cI (cX cI A n t k g w z q) (cX cI A n r.2.1 k g w r.2.2.1 r.2.2.2) [.ref (A 0), .int p1, .int p2, .int p3] (some (.int r.1)) := by
  unfold f_X4_lots at hf
  refine Ct.ofI (cc := cX4_lots) (maxL := 7) (by decide +kernel) rfl (Nat.le_of_ble_eq_true rfl) ?_
  intro p e s m args below meth c AA Q H locs ls hx hb hml hown hts hA hK hP hD hS hl hend0
  have hend : ∀ (r1 : Int32 × St × St × St) (H : Heap) (locs : List Loc) (pc : Nat) (ls : Array Slot), some r1 = some r → va_P D vwCl (cX cI A n r1.2.1 k g w r1.2.2.1 r1.2.2.2) H → va_S AA s.heap H locs → decode cX4_lots pc = .ok (.ireturn, 1) → W p l e rm_X4_lots s m args below meth c H locs 0 0 Q (F0 m pc ls [.int r1.1]) := by
    intro r1 H locs pc ls e1 hP hS hd; cases e1; exact hend0 H locs pc ls hP hS hd
  clear hend0
  have hw0 : ∀ w ∈ wsX00, w ∈ wsX4_lots := by decide +kernel
  have hw2 : ∀ w ∈ wsX20, w ∈ wsX4_lots := by decide +kernel
  have hw4 : ∀ w ∈ wsX40, w ∈ wsX4_lots := by decide +kernel
  have k10 := hts (.fieldLink RX4 10 "AnchorsForConfession" "now" "LAnchorsForConfession$Harbour;") (by decide +kernel)
  have k16 := hts (.fieldLink RX4 16 "AnchorsForConfession" "thought" "LAnchorsForConfession$Harbour;") (by decide +kernel)
  have k39 := hts (.fieldLink RX4 39 "AnchorsForConfession" "lot" "LAnchorsForConfession$Lot;") (by decide +kernel)
  have k158 := hts (.fieldLink RX4 158 "AnchorsForConfession$Harbour" "men" "I") (by decide +kernel)
  have k231 := hts (.fieldLink RX4 231 "AnchorsForConfession$Lot" "seed" "I") (by decide +kernel)
  replace hl : lv_has ls 7 [(0, .ref (A 0)), (1, .int p1), (2, .int p2), (3, .int p3)] := hl
  refine lv_iload_n hx hb dX4_lots_0 rfl (lv_at hl 1 rfl) ?_
  refine lv_iconst (v := 1) hx hb dX4_lots_1 (by decide) ?_
  refine lv_icmp_ge (tgt := 12) hx hb dX4_lots_2 (by decide) (fun c_1 => ?_) (fun c_1 => ?_)
  · replace hf := if_t c_1 hf
    refine lv_iload_n hx hb dX4_lots_12 rfl (lv_at hl 1 rfl) ?_
    refine lv_bipush (v := 20) hx hb dX4_lots_13 (by decide +kernel) ?_
    refine lv_icmp_le (tgt := 25) hx hb dX4_lots_15 (by decide) (fun c_2 => ?_) (fun c_2 => ?_)
    · replace hf := if_t c_2 hf
      refine lv_iload_n hx hb dX4_lots_25 rfl (lv_at hl 3 rfl) ?_
      refine lv_if_eq (tgt := 41) hx hb dX4_lots_26 (by decide) (fun c_3 => ?_) (fun c_3 => ?_)
      · replace hf := if_t c_3 hf
        refine lv_aload_n hx hb dX4_lots_41 rfl (lv_at hl 0 rfl) ?_
        refine va_get (D := D) (ci := 4) (v := .ref (A 1)) (C := RX4) (T := TX4) (N := 8) hx hb hts hw4 hown hK hP 0 cX_at0 rfl 0 (by decide) k10 (fun _ h9 => h9) rfl dX4_lots_42 ?_
        refine va_get (D := D) (ci := 0) (v := .int (n 16 1)) (C := RX0) (T := TX0) (N := 12) hx hb hts hw0 hown hK hP 1 cX_at1 rfl 4 (by decide) k158 (fun _ h9 => h9) rfl dX4_lots_45 ?_
        refine lv_if_ne (tgt := 58) hx hb dX4_lots_48 (by decide) (fun c_4 => ?_) (fun c_4 => ?_)
        · replace hf := if_f c_4 hf
          refine lv_aload_n hx hb dX4_lots_58 rfl (lv_at hl 0 rfl) ?_
          refine va_get (D := D) (ci := 4) (v := .ref (A 32)) (C := RX4) (T := TX4) (N := 8) hx hb hts hw4 hown hK hP 0 cX_at0 rfl 5 (by decide) k39 (fun _ h9 => h9) rfl dX4_lots_59 ?_
          refine lv_iload_n hx hb dX4_lots_62 rfl (lv_at hl 2 rfl) ?_
          refine va_put (D := D) (ci := 2) (v := .int p2) (ty := .int) (C := RX2) (T := TX2) (N := 1) hx hb hts hw2 tyX2 tyX2_ok nmX2 hown hK hP hD hS 32 cX_at32 rfl 0 (by decide) k231 (fun _ h9 => h9) rfl (tyX2_ok 0 (by decide)) rfl rfl (Nat.le_of_ble_eq_true rfl) dX4_lots_63 (fun H locs hP hD hS => ?_)
          obtain ⟨h_5, eh_5, hf⟩ := nm_e hf
          rw [cX_sc32_0, ← eh_5] at hP hD
          refine lv_iconst (v := 0) hx hb dX4_lots_66 (by decide) ?_
          refine lv_istore (lv' := [(4, .int (0 : Int32)), (0, .ref (A 0)), (1, .int p1), (2, .int p2), (3, .int p3)]) hx hb dX4_lots_67 hl (by decide) rfl (fun ls hl => ?_)
          refine lv_iconst (v := 0) hx hb dX4_lots_69 (by decide) ?_
          refine lv_istore (lv' := [(5, .int (0 : Int32)), (4, .int (0 : Int32)), (0, .ref (A 0)), (1, .int p1), (2, .int p2), (3, .int p3)]) hx hb dX4_lots_70 hl (by decide) rfl (fun ls hl => ?_)
          refine lv_iconst (v := 0) hx hb dX4_lots_72 (by decide) ?_
          refine lv_istore (lv' := [(6, .int (0 : Int32)), (5, .int (0 : Int32)), (4, .int (0 : Int32)), (0, .ref (A 0)), (1, .int p1), (2, .int p2), (3, .int p3)]) hx hb dX4_lots_73 hl (by decide) rfl (fun ls hl => ?_)
          refine lp_ind (P := fun (q75 : Int32 × Int32 × Int32 × St × St) => ∀ (H : Heap) (locs : List Loc) (ls : Array Slot), va_P D vwCl (cX cI A n q75.2.2.2.1 k g w q75.2.2.2.2 q) H → va_D AA (cX cI A n q75.2.2.2.1 k g w q75.2.2.2.2 q) → va_S AA s.heap H locs → lv_has ls 7 [(0, .ref (A 0)), (1, .int p1), (3, .int p3), (4, .int q75.1), (5, .int q75.2.1), (6, .int q75.2.2.1)] → W p l e rm_X4_lots s m args below meth c H locs 0 0 Q (F0 m 75 ls [])) hf ?_ H locs ls hP hD hS (lv_sub hl [3, 4, 6, 2, 1, 0] rfl)
          clear hf hP hD hS hl
          intro nx75 ih75 q75 hf H locs ls hP hD hS hl
          refine lv_iload hx hb dX4_lots_75 (lv_at hl 5 rfl) ?_
          refine lv_iload_n hx hb dX4_lots_77 rfl (lv_at hl 1 rfl) ?_
          refine lv_icmp_ge (tgt := 119) hx hb dX4_lots_78 (by decide) (fun c_6 => ?_) (fun c_6 => ?_)
          · replace hf := if_t c_6 hf
            refine lv_iload_n hx hb dX4_lots_119 rfl (lv_at hl 2 rfl) ?_
            refine lv_if_ne (tgt := 128) hx hb dX4_lots_120 (by decide) (fun c_7 => ?_) (fun c_7 => ?_)
            · replace hf := if_f c_7 hf
              refine lv_iload hx hb dX4_lots_128 (lv_at hl 4 rfl) ?_
              exact hend (q75.2.1, q75.2.2.2.1, q75.2.2.2.2, q) H locs _ _ hf hP hS dX4_lots_130
            · replace hf := if_t c_7 hf
              refine lv_iload hx hb dX4_lots_123 (lv_at hl 3 rfl) ?_
              refine lv_goto (tgt := 130) hx hb dX4_lots_125 (by decide) ?_
              exact hend (q75.1, q75.2.2.2.1, q75.2.2.2.2, q) H locs _ _ hf hP hS dX4_lots_130
          · replace hf := if_f c_6 hf
            refine lv_aload_n hx hb dX4_lots_81 rfl (lv_at hl 0 rfl) ?_
            refine va_get (D := D) (ci := 4) (v := .ref (A 10)) (C := RX4) (T := TX4) (N := 8) hx hb hts hw4 hown hK hP 0 cX_at0 rfl 1 (by decide) k16 (fun _ h9 => h9) rfl dX4_lots_82 ?_
            refine lv_aload_n hx hb dX4_lots_85 rfl (lv_at hl 0 rfl) ?_
            refine va_get (D := D) (ci := 4) (v := .ref (A 1)) (C := RX4) (T := TX4) (N := 8) hx hb hts hw4 hown hK hP 0 cX_at0 rfl 0 (by decide) k10 (fun _ h9 => h9) rfl dX4_lots_86 ?_
            obtain ⟨a_8, ha_8, hf⟩ := bd_e hf
            refine Ct.callV (As := [.ref (A 1)]) (rest := []) (st1 := []) (c_X0_copyFrom l D cI (fun j => A (10 + j)) (fun j => A (1 + j)) q75.2.2.2.1 n a_8 ha_8) hx hb hml hown hts (cwV 1 hts gX4_lots_X0_copyFrom rfl rfl rfl hd_X0_copyFrom ⟨Nat.le_of_ble_eq_true rfl, Nat.le_of_ble_eq_true rfl⟩) (va_recv hK hP (ci := 0) (q0 := 10) rfl cX_at10) ln_X_HH_tn hA hK hP hD hS rfl hl.1 rfl rfl (Nat.le_of_ble_eq_true rfl) dX4_lots_89 (fun H locs hP hD hS => ?_)
            replace hP : va_P D vwCl (cX cI A n a_8 k g w q75.2.2.2.2 q) H := hP
            replace hD : va_D AA (cX cI A n a_8 k g w q75.2.2.2.2 q) := hD
            refine lv_iload hx hb dX4_lots_92 (lv_at hl 3 rfl) ?_
            refine lv_aload_n hx hb dX4_lots_94 rfl (lv_at hl 0 rfl) ?_
            obtain ⟨a_9, ha_9, hf⟩ := bd_e hf
            refine Ct.callV (As := []) (rest := [.int q75.1]) (st1 := [.int a_9.1, .int q75.1]) (c_X4_season l D cI A n a_8 k g w q75.2.2.2.2 q a_9 ha_9) hx hb hml hown hts (cwV 0 hts gX4_lots_X4_season rfl rfl rfl hd_X4_season ⟨Nat.le_of_ble_eq_true rfl, Nat.le_of_ble_eq_true rfl⟩) (va_recv hK hP (ci := 4) (q0 := 0) rfl cX_at0) (Ln.id rfl) hA hK hP hD hS rfl hl.1 rfl rfl (Nat.le_of_ble_eq_true rfl) dX4_lots_95 (fun H locs hP hD hS => ?_)
            replace hP : va_P D vwCl (cX cI A n a_9.2.1 k g w a_9.2.2 q) H := hP
            replace hD : va_D AA (cX cI A n a_9.2.1 k g w a_9.2.2 q) := hD
            refine lv_iadd hx hb dX4_lots_98 ?_
            refine lv_topi (fun v_10 ev_10 => ?_)
            replace hf := nm_at ev_10 hf
            refine lv_istore (lv' := [(4, .int v_10), (0, .ref (A 0)), (1, .int p1), (3, .int p3), (5, .int q75.2.1), (6, .int q75.2.2.1)]) hx hb dX4_lots_99 hl (by decide) rfl (fun ls hl => ?_)
            refine lv_iload hx hb dX4_lots_101 (lv_at hl 4 rfl) ?_
            refine lv_aload_n hx hb dX4_lots_103 rfl (lv_at hl 1 rfl) ?_
            refine va_get (D := D) (ci := 4) (v := .ref (A 10)) (C := RX4) (T := TX4) (N := 8) hx hb hts hw4 hown hK hP 0 cX_at0 rfl 1 (by decide) k16 (fun _ h9 => h9) rfl dX4_lots_104 ?_
            obtain ⟨a_11, ha_11, hf⟩ := bd_e hf
            refine Ct.callV (As := []) (rest := [.int q75.2.1]) (st1 := [.int a_11, .int q75.2.1]) (c_X0_allSins l D cI (fun j => A (10 + j)) a_9.2.1 a_11 ha_11) hx hb hml hown hts (cwV 0 hts gX4_lots_X0_allSins rfl rfl rfl hd_X0_allSins ⟨Nat.le_of_ble_eq_true rfl, Nat.le_of_ble_eq_true rfl⟩) (va_recv hK hP (ci := 0) (q0 := 10) rfl cX_at10) ln_X_H_t hA hK hP hD hS rfl hl.1 rfl rfl (Nat.le_of_ble_eq_true rfl) dX4_lots_107 (fun H locs hP hD hS => ?_)
            refine lv_iadd hx hb dX4_lots_110 ?_
            refine lv_topi (fun v_12 ev_12 => ?_)
            replace hf := nm_at ev_12 hf
            refine lv_istore (lv' := [(5, .int v_12), (4, .int v_10), (0, .ref (A 0)), (1, .int p1), (3, .int p3), (6, .int q75.2.2.1)]) hx hb dX4_lots_111 hl (by decide) rfl (fun ls hl => ?_)
            obtain ⟨v_13, ev_13, hf⟩ := nm_e hf
            refine lv_iinc (v := v_13) (lv' := [(6, .int v_13), (5, .int v_12), (4, .int v_10), (0, .ref (A 0)), (1, .int p1), (3, .int p3)]) hx hb dX4_lots_113 hl (k := 5) rfl (by rw [ev_13]; rfl) (by decide) rfl (fun ls hl => ?_)
            refine lv_goto (tgt := 75) hx hb dX4_lots_116 (by decide) ?_
            exact ih75 (v_10, v_12, v_13, a_9.2.1, a_9.2.2) hf H locs ls hP hD hS (lv_sub hl [3, 4, 5, 2, 1, 0] rfl)
        · replace hf := if_t c_4 hf
          refine lv_aload_n hx hb dX4_lots_51 rfl (lv_at hl 0 rfl) ?_
          refine lv_bipush (v := -3) hx hb dX4_lots_52 (by decide +kernel) ?_
          obtain ⟨a_14, ha_14, hf⟩ := bd_e hf
          refine Ct.callV (As := [.int (-3 : Int32)]) (rest := []) (st1 := [.int a_14.1]) (c_X4_refused l D cI A n t k g w z q (-3 : Int32) a_14 ha_14) hx hb hml hown hts (cwV 1 hts gX4_lots_X4_refused rfl rfl rfl hd_X4_refused ⟨Nat.le_of_ble_eq_true rfl, Nat.le_of_ble_eq_true rfl⟩) (va_recv hK hP (ci := 4) (q0 := 0) rfl cX_at0) (Ln.id rfl) hA hK hP hD hS rfl hl.1 rfl rfl (Nat.le_of_ble_eq_true rfl) dX4_lots_54 (fun H locs hP hD hS => ?_)
          replace hP : va_P D vwCl (cX cI A n t k g w z a_14.2) H := hP
          replace hD : va_D AA (cX cI A n t k g w z a_14.2) := hD
          exact hend (a_14.1, t, z, a_14.2) H locs _ _ hf hP hS dX4_lots_57
      · replace hf := if_f c_3 hf
        refine lv_iload_n hx hb dX4_lots_29 rfl (lv_at hl 3 rfl) ?_
        refine lv_iconst (v := 1) hx hb dX4_lots_30 (by decide) ?_
        refine lv_icmp_eq (tgt := 41) hx hb dX4_lots_31 (by decide) (fun c_15 => ?_) (fun c_15 => ?_)
        · replace hf := if_t c_15 hf
          refine lv_aload_n hx hb dX4_lots_41 rfl (lv_at hl 0 rfl) ?_
          refine va_get (D := D) (ci := 4) (v := .ref (A 1)) (C := RX4) (T := TX4) (N := 8) hx hb hts hw4 hown hK hP 0 cX_at0 rfl 0 (by decide) k10 (fun _ h9 => h9) rfl dX4_lots_42 ?_
          refine va_get (D := D) (ci := 0) (v := .int (n 16 1)) (C := RX0) (T := TX0) (N := 12) hx hb hts hw0 hown hK hP 1 cX_at1 rfl 4 (by decide) k158 (fun _ h9 => h9) rfl dX4_lots_45 ?_
          refine lv_if_ne (tgt := 58) hx hb dX4_lots_48 (by decide) (fun c_16 => ?_) (fun c_16 => ?_)
          · replace hf := if_f c_16 hf
            refine lv_aload_n hx hb dX4_lots_58 rfl (lv_at hl 0 rfl) ?_
            refine va_get (D := D) (ci := 4) (v := .ref (A 32)) (C := RX4) (T := TX4) (N := 8) hx hb hts hw4 hown hK hP 0 cX_at0 rfl 5 (by decide) k39 (fun _ h9 => h9) rfl dX4_lots_59 ?_
            refine lv_iload_n hx hb dX4_lots_62 rfl (lv_at hl 2 rfl) ?_
            refine va_put (D := D) (ci := 2) (v := .int p2) (ty := .int) (C := RX2) (T := TX2) (N := 1) hx hb hts hw2 tyX2 tyX2_ok nmX2 hown hK hP hD hS 32 cX_at32 rfl 0 (by decide) k231 (fun _ h9 => h9) rfl (tyX2_ok 0 (by decide)) rfl rfl (Nat.le_of_ble_eq_true rfl) dX4_lots_63 (fun H locs hP hD hS => ?_)
            obtain ⟨h_17, eh_17, hf⟩ := nm_e hf
            rw [cX_sc32_0, ← eh_17] at hP hD
            refine lv_iconst (v := 0) hx hb dX4_lots_66 (by decide) ?_
            refine lv_istore (lv' := [(4, .int (0 : Int32)), (0, .ref (A 0)), (1, .int p1), (2, .int p2), (3, .int p3)]) hx hb dX4_lots_67 hl (by decide) rfl (fun ls hl => ?_)
            refine lv_iconst (v := 0) hx hb dX4_lots_69 (by decide) ?_
            refine lv_istore (lv' := [(5, .int (0 : Int32)), (4, .int (0 : Int32)), (0, .ref (A 0)), (1, .int p1), (2, .int p2), (3, .int p3)]) hx hb dX4_lots_70 hl (by decide) rfl (fun ls hl => ?_)
            refine lv_iconst (v := 0) hx hb dX4_lots_72 (by decide) ?_
            refine lv_istore (lv' := [(6, .int (0 : Int32)), (5, .int (0 : Int32)), (4, .int (0 : Int32)), (0, .ref (A 0)), (1, .int p1), (2, .int p2), (3, .int p3)]) hx hb dX4_lots_73 hl (by decide) rfl (fun ls hl => ?_)
            refine lp_ind (P := fun (q75 : Int32 × Int32 × Int32 × St × St) => ∀ (H : Heap) (locs : List Loc) (ls : Array Slot), va_P D vwCl (cX cI A n q75.2.2.2.1 k g w q75.2.2.2.2 q) H → va_D AA (cX cI A n q75.2.2.2.1 k g w q75.2.2.2.2 q) → va_S AA s.heap H locs → lv_has ls 7 [(0, .ref (A 0)), (1, .int p1), (3, .int p3), (4, .int q75.1), (5, .int q75.2.1), (6, .int q75.2.2.1)] → W p l e rm_X4_lots s m args below meth c H locs 0 0 Q (F0 m 75 ls [])) hf ?_ H locs ls hP hD hS (lv_sub hl [3, 4, 6, 2, 1, 0] rfl)
            clear hf hP hD hS hl
            intro nx75 ih75 q75 hf H locs ls hP hD hS hl
            refine lv_iload hx hb dX4_lots_75 (lv_at hl 5 rfl) ?_
            refine lv_iload_n hx hb dX4_lots_77 rfl (lv_at hl 1 rfl) ?_
            refine lv_icmp_ge (tgt := 119) hx hb dX4_lots_78 (by decide) (fun c_18 => ?_) (fun c_18 => ?_)
            · replace hf := if_t c_18 hf
              refine lv_iload_n hx hb dX4_lots_119 rfl (lv_at hl 2 rfl) ?_
              refine lv_if_ne (tgt := 128) hx hb dX4_lots_120 (by decide) (fun c_19 => ?_) (fun c_19 => ?_)
              · replace hf := if_f c_19 hf
                refine lv_iload hx hb dX4_lots_128 (lv_at hl 4 rfl) ?_
                exact hend (q75.2.1, q75.2.2.2.1, q75.2.2.2.2, q) H locs _ _ hf hP hS dX4_lots_130
              · replace hf := if_t c_19 hf
                refine lv_iload hx hb dX4_lots_123 (lv_at hl 3 rfl) ?_
                refine lv_goto (tgt := 130) hx hb dX4_lots_125 (by decide) ?_
                exact hend (q75.1, q75.2.2.2.1, q75.2.2.2.2, q) H locs _ _ hf hP hS dX4_lots_130
            · replace hf := if_f c_18 hf
              refine lv_aload_n hx hb dX4_lots_81 rfl (lv_at hl 0 rfl) ?_
              refine va_get (D := D) (ci := 4) (v := .ref (A 10)) (C := RX4) (T := TX4) (N := 8) hx hb hts hw4 hown hK hP 0 cX_at0 rfl 1 (by decide) k16 (fun _ h9 => h9) rfl dX4_lots_82 ?_
              refine lv_aload_n hx hb dX4_lots_85 rfl (lv_at hl 0 rfl) ?_
              refine va_get (D := D) (ci := 4) (v := .ref (A 1)) (C := RX4) (T := TX4) (N := 8) hx hb hts hw4 hown hK hP 0 cX_at0 rfl 0 (by decide) k10 (fun _ h9 => h9) rfl dX4_lots_86 ?_
              obtain ⟨a_20, ha_20, hf⟩ := bd_e hf
              refine Ct.callV (As := [.ref (A 1)]) (rest := []) (st1 := []) (c_X0_copyFrom l D cI (fun j => A (10 + j)) (fun j => A (1 + j)) q75.2.2.2.1 n a_20 ha_20) hx hb hml hown hts (cwV 1 hts gX4_lots_X0_copyFrom rfl rfl rfl hd_X0_copyFrom ⟨Nat.le_of_ble_eq_true rfl, Nat.le_of_ble_eq_true rfl⟩) (va_recv hK hP (ci := 0) (q0 := 10) rfl cX_at10) ln_X_HH_tn hA hK hP hD hS rfl hl.1 rfl rfl (Nat.le_of_ble_eq_true rfl) dX4_lots_89 (fun H locs hP hD hS => ?_)
              replace hP : va_P D vwCl (cX cI A n a_20 k g w q75.2.2.2.2 q) H := hP
              replace hD : va_D AA (cX cI A n a_20 k g w q75.2.2.2.2 q) := hD
              refine lv_iload hx hb dX4_lots_92 (lv_at hl 3 rfl) ?_
              refine lv_aload_n hx hb dX4_lots_94 rfl (lv_at hl 0 rfl) ?_
              obtain ⟨a_21, ha_21, hf⟩ := bd_e hf
              refine Ct.callV (As := []) (rest := [.int q75.1]) (st1 := [.int a_21.1, .int q75.1]) (c_X4_season l D cI A n a_20 k g w q75.2.2.2.2 q a_21 ha_21) hx hb hml hown hts (cwV 0 hts gX4_lots_X4_season rfl rfl rfl hd_X4_season ⟨Nat.le_of_ble_eq_true rfl, Nat.le_of_ble_eq_true rfl⟩) (va_recv hK hP (ci := 4) (q0 := 0) rfl cX_at0) (Ln.id rfl) hA hK hP hD hS rfl hl.1 rfl rfl (Nat.le_of_ble_eq_true rfl) dX4_lots_95 (fun H locs hP hD hS => ?_)
              replace hP : va_P D vwCl (cX cI A n a_21.2.1 k g w a_21.2.2 q) H := hP
              replace hD : va_D AA (cX cI A n a_21.2.1 k g w a_21.2.2 q) := hD
              refine lv_iadd hx hb dX4_lots_98 ?_
              refine lv_topi (fun v_22 ev_22 => ?_)
              replace hf := nm_at ev_22 hf
              refine lv_istore (lv' := [(4, .int v_22), (0, .ref (A 0)), (1, .int p1), (3, .int p3), (5, .int q75.2.1), (6, .int q75.2.2.1)]) hx hb dX4_lots_99 hl (by decide) rfl (fun ls hl => ?_)
              refine lv_iload hx hb dX4_lots_101 (lv_at hl 4 rfl) ?_
              refine lv_aload_n hx hb dX4_lots_103 rfl (lv_at hl 1 rfl) ?_
              refine va_get (D := D) (ci := 4) (v := .ref (A 10)) (C := RX4) (T := TX4) (N := 8) hx hb hts hw4 hown hK hP 0 cX_at0 rfl 1 (by decide) k16 (fun _ h9 => h9) rfl dX4_lots_104 ?_
              obtain ⟨a_23, ha_23, hf⟩ := bd_e hf
              refine Ct.callV (As := []) (rest := [.int q75.2.1]) (st1 := [.int a_23, .int q75.2.1]) (c_X0_allSins l D cI (fun j => A (10 + j)) a_21.2.1 a_23 ha_23) hx hb hml hown hts (cwV 0 hts gX4_lots_X0_allSins rfl rfl rfl hd_X0_allSins ⟨Nat.le_of_ble_eq_true rfl, Nat.le_of_ble_eq_true rfl⟩) (va_recv hK hP (ci := 0) (q0 := 10) rfl cX_at10) ln_X_H_t hA hK hP hD hS rfl hl.1 rfl rfl (Nat.le_of_ble_eq_true rfl) dX4_lots_107 (fun H locs hP hD hS => ?_)
              refine lv_iadd hx hb dX4_lots_110 ?_
              refine lv_topi (fun v_24 ev_24 => ?_)
              replace hf := nm_at ev_24 hf
              refine lv_istore (lv' := [(5, .int v_24), (4, .int v_22), (0, .ref (A 0)), (1, .int p1), (3, .int p3), (6, .int q75.2.2.1)]) hx hb dX4_lots_111 hl (by decide) rfl (fun ls hl => ?_)
              obtain ⟨v_25, ev_25, hf⟩ := nm_e hf
              refine lv_iinc (v := v_25) (lv' := [(6, .int v_25), (5, .int v_24), (4, .int v_22), (0, .ref (A 0)), (1, .int p1), (3, .int p3)]) hx hb dX4_lots_113 hl (k := 5) rfl (by rw [ev_25]; rfl) (by decide) rfl (fun ls hl => ?_)
              refine lv_goto (tgt := 75) hx hb dX4_lots_116 (by decide) ?_
              exact ih75 (v_22, v_24, v_25, a_21.2.1, a_21.2.2) hf H locs ls hP hD hS (lv_sub hl [3, 4, 5, 2, 1, 0] rfl)
          · replace hf := if_t c_16 hf
            refine lv_aload_n hx hb dX4_lots_51 rfl (lv_at hl 0 rfl) ?_
            refine lv_bipush (v := -3) hx hb dX4_lots_52 (by decide +kernel) ?_
            obtain ⟨a_26, ha_26, hf⟩ := bd_e hf
            refine Ct.callV (As := [.int (-3 : Int32)]) (rest := []) (st1 := [.int a_26.1]) (c_X4_refused l D cI A n t k g w z q (-3 : Int32) a_26 ha_26) hx hb hml hown hts (cwV 1 hts gX4_lots_X4_refused rfl rfl rfl hd_X4_refused ⟨Nat.le_of_ble_eq_true rfl, Nat.le_of_ble_eq_true rfl⟩) (va_recv hK hP (ci := 4) (q0 := 0) rfl cX_at0) (Ln.id rfl) hA hK hP hD hS rfl hl.1 rfl rfl (Nat.le_of_ble_eq_true rfl) dX4_lots_54 (fun H locs hP hD hS => ?_)
            replace hP : va_P D vwCl (cX cI A n t k g w z a_26.2) H := hP
            replace hD : va_D AA (cX cI A n t k g w z a_26.2) := hD
            exact hend (a_26.1, t, z, a_26.2) H locs _ _ hf hP hS dX4_lots_57
        · replace hf := if_f c_15 hf
          refine lv_aload_n hx hb dX4_lots_34 rfl (lv_at hl 0 rfl) ?_
          refine lv_bipush (v := -2) hx hb dX4_lots_35 (by decide +kernel) ?_
          obtain ⟨a_27, ha_27, hf⟩ := bd_e hf
          refine Ct.callV (As := [.int (-2 : Int32)]) (rest := []) (st1 := [.int a_27.1]) (c_X4_refused l D cI A n t k g w z q (-2 : Int32) a_27 ha_27) hx hb hml hown hts (cwV 1 hts gX4_lots_X4_refused rfl rfl rfl hd_X4_refused ⟨Nat.le_of_ble_eq_true rfl, Nat.le_of_ble_eq_true rfl⟩) (va_recv hK hP (ci := 4) (q0 := 0) rfl cX_at0) (Ln.id rfl) hA hK hP hD hS rfl hl.1 rfl rfl (Nat.le_of_ble_eq_true rfl) dX4_lots_37 (fun H locs hP hD hS => ?_)
          replace hP : va_P D vwCl (cX cI A n t k g w z a_27.2) H := hP
          replace hD : va_D AA (cX cI A n t k g w z a_27.2) := hD
          exact hend (a_27.1, t, z, a_27.2) H locs _ _ hf hP hS dX4_lots_40
    · replace hf := if_f c_2 hf
      refine lv_aload_n hx hb dX4_lots_18 rfl (lv_at hl 0 rfl) ?_
      refine lv_bipush (v := -6) hx hb dX4_lots_19 (by decide +kernel) ?_
      obtain ⟨a_28, ha_28, hf⟩ := bd_e hf
      refine Ct.callV (As := [.int (-6 : Int32)]) (rest := []) (st1 := [.int a_28.1]) (c_X4_refused l D cI A n t k g w z q (-6 : Int32) a_28 ha_28) hx hb hml hown hts (cwV 1 hts gX4_lots_X4_refused rfl rfl rfl hd_X4_refused ⟨Nat.le_of_ble_eq_true rfl, Nat.le_of_ble_eq_true rfl⟩) (va_recv hK hP (ci := 4) (q0 := 0) rfl cX_at0) (Ln.id rfl) hA hK hP hD hS rfl hl.1 rfl rfl (Nat.le_of_ble_eq_true rfl) dX4_lots_21 (fun H locs hP hD hS => ?_)
      replace hP : va_P D vwCl (cX cI A n t k g w z a_28.2) H := hP
      replace hD : va_D AA (cX cI A n t k g w z a_28.2) := hD
      exact hend (a_28.1, t, z, a_28.2) H locs _ _ hf hP hS dX4_lots_24
  · replace hf := if_f c_1 hf
    refine lv_aload_n hx hb dX4_lots_5 rfl (lv_at hl 0 rfl) ?_
    refine lv_bipush (v := -4) hx hb dX4_lots_6 (by decide +kernel) ?_
    obtain ⟨a_29, ha_29, hf⟩ := bd_e hf
    refine Ct.callV (As := [.int (-4 : Int32)]) (rest := []) (st1 := [.int a_29.1]) (c_X4_refused l D cI A n t k g w z q (-4 : Int32) a_29 ha_29) hx hb hml hown hts (cwV 1 hts gX4_lots_X4_refused rfl rfl rfl hd_X4_refused ⟨Nat.le_of_ble_eq_true rfl, Nat.le_of_ble_eq_true rfl⟩) (va_recv hK hP (ci := 4) (q0 := 0) rfl cX_at0) (Ln.id rfl) hA hK hP hD hS rfl hl.1 rfl rfl (Nat.le_of_ble_eq_true rfl) dX4_lots_8 (fun H locs hP hD hS => ?_)
    replace hP : va_P D vwCl (cX cI A n t k g w z a_29.2) H := hP
    replace hD : va_D AA (cX cI A n t k g w z a_29.2) := hD
    exact hend (a_29.1, t, z, a_29.2) H locs _ _ hf hP hS dX4_lots_11

def f_X4_image (n : St) (t : St) (k : St) (g : St) (w : St) (z : St) (q : St) : Option (Int32 × St × St) := (bd (f_X0_copyFrom k n) fun a_1 => (nm (su q 1 0 (1 : Int32)) fun h_2 => (some ((a_1 16 3), a_1, h_2))))
def rm_X4_image : Room := { frames := 1, cells := 0, slots := 0, locals := 22 }
theorem hd_X4_image : yX4_image.cls = RX4 ∧ yX4_image.cls ≠ "java/lang/invoke/MethodHandle" ∧ yX4_image.cls ≠ "java/lang/invoke/VarHandle" ∧ (parseMethodDescriptor yX4_image.desc).map (fun d => d.parameters.length) = some 0 := by decide +kernel
set_option maxRecDepth 100000 in
set_option maxHeartbeats 4000000 in
theorem c_X4_image (l : Launch) (D : va_G) (cI : ClassId) (A : Nat → Nat) (n : St) (t : St) (k : St) (g : St) (w : St) (z : St) (q : St) (r : Int32 × St × St) (hf : f_X4_image n t k g w z q = some r) : Ct l yX4_image wsX4_image rm_X4_image D cI (cX cI A n t k g w z q) (cX cI A n t r.2.1 g w z r.2.2) [.ref (A 0)] (some (.int r.1)) := by
  unfold f_X4_image at hf
  refine Ct.ofI (cc := cX4_image) (maxL := 1) (by decide +kernel) rfl (Nat.le_of_ble_eq_true rfl) ?_
  intro p e s m args below meth c AA Q H locs ls hx hb hml hown hts hA hK hP hD hS hl hend0
  have hend : ∀ (r1 : Int32 × St × St) (H : Heap) (locs : List Loc) (pc : Nat) (ls : Array Slot), some r1 = some r → va_P D vwCl (cX cI A n t r1.2.1 g w z r1.2.2) H → va_S AA s.heap H locs → decode cX4_image pc = .ok (.ireturn, 1) → W p l e rm_X4_image s m args below meth c H locs 0 0 Q (F0 m pc ls [.int r1.1]) := by
    intro r1 H locs pc ls e1 hP hS hd; cases e1; exact hend0 H locs pc ls hP hS hd
  clear hend0
  have hw0 : ∀ w ∈ wsX00, w ∈ wsX4_image := by decide +kernel
  have hw4 : ∀ w ∈ wsX40, w ∈ wsX4_image := by decide +kernel
  have k10 := hts (.fieldLink RX4 10 "AnchorsForConfession" "now" "LAnchorsForConfession$Harbour;") (by decide +kernel)
  have k19 := hts (.fieldLink RX4 19 "AnchorsForConfession" "kept" "LAnchorsForConfession$Harbour;") (by decide +kernel)
  have k47 := hts (.fieldLink RX4 47 "AnchorsForConfession" "imageTaken" "Z") (by decide +kernel)
  have k178 := hts (.fieldLink RX4 178 "AnchorsForConfession$Harbour" "tide" "I") (by decide +kernel)
  replace hl : lv_has ls 1 [(0, .ref (A 0))] := hl
  refine lv_aload_n hx hb dX4_image_0 rfl (lv_at hl 0 rfl) ?_
  refine va_get (D := D) (ci := 4) (v := .ref (A 19)) (C := RX4) (T := TX4) (N := 8) hx hb hts hw4 hown hK hP 0 cX_at0 rfl 2 (by decide) k19 (fun _ h9 => h9) rfl dX4_image_1 ?_
  refine lv_aload_n hx hb dX4_image_4 rfl (lv_at hl 0 rfl) ?_
  refine va_get (D := D) (ci := 4) (v := .ref (A 1)) (C := RX4) (T := TX4) (N := 8) hx hb hts hw4 hown hK hP 0 cX_at0 rfl 0 (by decide) k10 (fun _ h9 => h9) rfl dX4_image_5 ?_
  obtain ⟨a_1, ha_1, hf⟩ := bd_e hf
  refine Ct.callV (As := [.ref (A 1)]) (rest := []) (st1 := []) (c_X0_copyFrom l D cI (fun j => A (19 + j)) (fun j => A (1 + j)) k n a_1 ha_1) hx hb hml hown hts (cwV 1 hts gX4_image_X0_copyFrom rfl rfl rfl hd_X0_copyFrom ⟨Nat.le_of_ble_eq_true rfl, Nat.le_of_ble_eq_true rfl⟩) (va_recv hK hP (ci := 0) (q0 := 19) rfl cX_at19) ln_X_HH_kn hA hK hP hD hS rfl hl.1 rfl rfl (Nat.le_of_ble_eq_true rfl) dX4_image_8 (fun H locs hP hD hS => ?_)
  replace hP : va_P D vwCl (cX cI A n t a_1 g w z q) H := hP
  replace hD : va_D AA (cX cI A n t a_1 g w z q) := hD
  refine lv_aload_n hx hb dX4_image_11 rfl (lv_at hl 0 rfl) ?_
  refine lv_iconst (v := 1) hx hb dX4_image_12 (by decide) ?_
  refine va_put (D := D) (ci := 4) (v := .int (1 : Int32)) (ty := .boolean) (C := RX4) (T := TX4) (N := 8) hx hb hts hw4 tyX4 tyX4_ok nmX4 hown hK hP hD hS 0 cX_at0 rfl 7 (by decide) k47 (fun _ h9 => h9) rfl (tyX4_ok 7 (by decide)) rfl rfl (Nat.le_of_ble_eq_true rfl) dX4_image_13 (fun H locs hP hD hS => ?_)
  obtain ⟨h_2, eh_2, hf⟩ := nm_e hf
  rw [cX_sc0_7, ← eh_2] at hP hD
  refine lv_aload_n hx hb dX4_image_16 rfl (lv_at hl 0 rfl) ?_
  refine va_get (D := D) (ci := 4) (v := .ref (A 19)) (C := RX4) (T := TX4) (N := 8) hx hb hts hw4 hown hK hP 0 cX_at0 rfl 2 (by decide) k19 (fun _ h9 => h9) rfl dX4_image_17 ?_
  refine va_get (D := D) (ci := 0) (v := .int (a_1 16 3)) (C := RX0) (T := TX0) (N := 12) hx hb hts hw0 hown hK hP 19 cX_at19 rfl 10 (by decide) k178 (fun _ h9 => h9) rfl dX4_image_20 ?_
  exact hend ((a_1 16 3), a_1, h_2) H locs _ _ hf hP hS dX4_image_23

def f_X4_on (n : St) (t : St) (k : St) (g : St) (w : St) (z : St) (q : St) : Option (Int32 × St × St) := (if (q 1 0) = 0 then (bd (f_X4_refused n t k g w z q (-3 : Int32)) fun a_3 => (some (a_3.1, n, a_3.2))) else (bd (f_X0_copyFrom n k) fun a_2 => (some ((a_2 16 3), a_2, q))))
def rm_X4_on : Room := { frames := 1, cells := 0, slots := 0, locals := 22 }
theorem hd_X4_on : yX4_on.cls = RX4 ∧ yX4_on.cls ≠ "java/lang/invoke/MethodHandle" ∧ yX4_on.cls ≠ "java/lang/invoke/VarHandle" ∧ (parseMethodDescriptor yX4_on.desc).map (fun d => d.parameters.length) = some 0 := by decide +kernel
set_option maxRecDepth 100000 in
set_option maxHeartbeats 4000000 in
theorem c_X4_on (l : Launch) (D : va_G) (cI : ClassId) (A : Nat → Nat) (n : St) (t : St) (k : St) (g : St) (w : St) (z : St) (q : St) (r : Int32 × St × St) (hf : f_X4_on n t k g w z q = some r) : Ct l yX4_on wsX4_on rm_X4_on D cI (cX cI A n t k g w z q) (cX cI A r.2.1 t k g w z r.2.2) [.ref (A 0)] (some (.int r.1)) := by
  unfold f_X4_on at hf
  refine Ct.ofI (cc := cX4_on) (maxL := 1) (by decide +kernel) rfl (Nat.le_of_ble_eq_true rfl) ?_
  intro p e s m args below meth c AA Q H locs ls hx hb hml hown hts hA hK hP hD hS hl hend0
  have hend : ∀ (r1 : Int32 × St × St) (H : Heap) (locs : List Loc) (pc : Nat) (ls : Array Slot), some r1 = some r → va_P D vwCl (cX cI A r1.2.1 t k g w z r1.2.2) H → va_S AA s.heap H locs → decode cX4_on pc = .ok (.ireturn, 1) → W p l e rm_X4_on s m args below meth c H locs 0 0 Q (F0 m pc ls [.int r1.1]) := by
    intro r1 H locs pc ls e1 hP hS hd; cases e1; exact hend0 H locs pc ls hP hS hd
  clear hend0
  have hw0 : ∀ w ∈ wsX00, w ∈ wsX4_on := by decide +kernel
  have hw4 : ∀ w ∈ wsX40, w ∈ wsX4_on := by decide +kernel
  have k10 := hts (.fieldLink RX4 10 "AnchorsForConfession" "now" "LAnchorsForConfession$Harbour;") (by decide +kernel)
  have k19 := hts (.fieldLink RX4 19 "AnchorsForConfession" "kept" "LAnchorsForConfession$Harbour;") (by decide +kernel)
  have k47 := hts (.fieldLink RX4 47 "AnchorsForConfession" "imageTaken" "Z") (by decide +kernel)
  have k178 := hts (.fieldLink RX4 178 "AnchorsForConfession$Harbour" "tide" "I") (by decide +kernel)
  replace hl : lv_has ls 1 [(0, .ref (A 0))] := hl
  refine lv_aload_n hx hb dX4_on_0 rfl (lv_at hl 0 rfl) ?_
  refine va_get (D := D) (ci := 4) (v := .int (q 1 0)) (C := RX4) (T := TX4) (N := 8) hx hb hts hw4 hown hK hP 0 cX_at0 rfl 7 (by decide) k47 (fun _ h9 => h9) rfl dX4_on_1 ?_
  refine lv_if_ne (tgt := 14) hx hb dX4_on_4 (by decide) (fun c_1 => ?_) (fun c_1 => ?_)
  · replace hf := if_f c_1 hf
    refine lv_aload_n hx hb dX4_on_14 rfl (lv_at hl 0 rfl) ?_
    refine va_get (D := D) (ci := 4) (v := .ref (A 1)) (C := RX4) (T := TX4) (N := 8) hx hb hts hw4 hown hK hP 0 cX_at0 rfl 0 (by decide) k10 (fun _ h9 => h9) rfl dX4_on_15 ?_
    refine lv_aload_n hx hb dX4_on_18 rfl (lv_at hl 0 rfl) ?_
    refine va_get (D := D) (ci := 4) (v := .ref (A 19)) (C := RX4) (T := TX4) (N := 8) hx hb hts hw4 hown hK hP 0 cX_at0 rfl 2 (by decide) k19 (fun _ h9 => h9) rfl dX4_on_19 ?_
    obtain ⟨a_2, ha_2, hf⟩ := bd_e hf
    refine Ct.callV (As := [.ref (A 19)]) (rest := []) (st1 := []) (c_X0_copyFrom l D cI (fun j => A (1 + j)) (fun j => A (19 + j)) n k a_2 ha_2) hx hb hml hown hts (cwV 1 hts gX4_on_X0_copyFrom rfl rfl rfl hd_X0_copyFrom ⟨Nat.le_of_ble_eq_true rfl, Nat.le_of_ble_eq_true rfl⟩) (va_recv hK hP (ci := 0) (q0 := 1) rfl cX_at1) ln_X_HH_nk hA hK hP hD hS rfl hl.1 rfl rfl (Nat.le_of_ble_eq_true rfl) dX4_on_22 (fun H locs hP hD hS => ?_)
    replace hP : va_P D vwCl (cX cI A a_2 t k g w z q) H := hP
    replace hD : va_D AA (cX cI A a_2 t k g w z q) := hD
    refine lv_aload_n hx hb dX4_on_25 rfl (lv_at hl 0 rfl) ?_
    refine va_get (D := D) (ci := 4) (v := .ref (A 1)) (C := RX4) (T := TX4) (N := 8) hx hb hts hw4 hown hK hP 0 cX_at0 rfl 0 (by decide) k10 (fun _ h9 => h9) rfl dX4_on_26 ?_
    refine va_get (D := D) (ci := 0) (v := .int (a_2 16 3)) (C := RX0) (T := TX0) (N := 12) hx hb hts hw0 hown hK hP 1 cX_at1 rfl 10 (by decide) k178 (fun _ h9 => h9) rfl dX4_on_29 ?_
    exact hend ((a_2 16 3), a_2, q) H locs _ _ hf hP hS dX4_on_32
  · replace hf := if_t c_1 hf
    refine lv_aload_n hx hb dX4_on_7 rfl (lv_at hl 0 rfl) ?_
    refine lv_bipush (v := -3) hx hb dX4_on_8 (by decide +kernel) ?_
    obtain ⟨a_3, ha_3, hf⟩ := bd_e hf
    refine Ct.callV (As := [.int (-3 : Int32)]) (rest := []) (st1 := [.int a_3.1]) (c_X4_refused l D cI A n t k g w z q (-3 : Int32) a_3 ha_3) hx hb hml hown hts (cwV 1 hts gX4_on_X4_refused rfl rfl rfl hd_X4_refused ⟨Nat.le_of_ble_eq_true rfl, Nat.le_of_ble_eq_true rfl⟩) (va_recv hK hP (ci := 4) (q0 := 0) rfl cX_at0) (Ln.id rfl) hA hK hP hD hS rfl hl.1 rfl rfl (Nat.le_of_ble_eq_true rfl) dX4_on_10 (fun H locs hP hD hS => ?_)
    replace hP : va_P D vwCl (cX cI A n t k g w z a_3.2) H := hP
    replace hD : va_D AA (cX cI A n t k g w z a_3.2) := hD
    exact hend (a_3.1, n, a_3.2) H locs _ _ hf hP hS dX4_on_13

def f_X4_count (n : St) (t : St) (k : St) (g : St) (w : St) (z : St) (q : St) (p1 : Int32) : Option (Int32) := (if p1 < (11 : Int32) then (if p1 = 0 then (some (n 16 0)) else (if p1 = 1 then (some (n 16 1)) else (if p1 = 2 then (some (n 16 3)) else (if p1 = 3 then (some (n 16 2)) else (if p1 = 4 then (bd (f_X0_outBits n) fun a_7 => (some a_7)) else (if p1 = 5 then (bd (f_X0_allSins n) fun a_9 => (some a_9)) else (if p1 = 6 then (some (w 1 0)) else (if p1 = 7 then (some (g 1 0)) else (some (-9 : Int32)))))))))) else (if (16 : Int32) < p1 then (if p1 = 0 then (some (n 16 0)) else (if p1 = 1 then (some (n 16 1)) else (if p1 = 2 then (some (n 16 3)) else (if p1 = 3 then (some (n 16 2)) else (if p1 = 4 then (bd (f_X0_outBits n) fun a_18 => (some a_18)) else (if p1 = 5 then (bd (f_X0_allSins n) fun a_20 => (some a_20)) else (if p1 = 6 then (some (w 1 0)) else (if p1 = 7 then (some (g 1 0)) else (some (-9 : Int32)))))))))) else (gi (p1 - (10 : Int32)) 7 (some (q 0 ((p1 - (10 : Int32))).toNatClampNeg)))))
def rm_X4_count : Room := { frames := 2, cells := 0, slots := 0, locals := 43 }
theorem hd_X4_count : yX4_count.cls = RX4 ∧ yX4_count.cls ≠ "java/lang/invoke/MethodHandle" ∧ yX4_count.cls ≠ "java/lang/invoke/VarHandle" ∧ (parseMethodDescriptor yX4_count.desc).map (fun d => d.parameters.length) = some 1 := by decide +kernel
set_option maxRecDepth 100000 in
set_option maxHeartbeats 4000000 in
theorem c_X4_count (l : Launch) (D : va_G) (cI : ClassId) (A : Nat → Nat) (n : St) (t : St) (k : St) (g : St) (w : St) (z : St) (q : St) (p1 : Int32) (r : Int32) (hf : f_X4_count n t k g w z q p1 = some r) : Ct l yX4_count wsX4_count rm_X4_count D cI (cX cI A n t k g w z q) (cX cI A n t k g w z q) [.ref (A 0), .int p1] (some (.int r)) := by
  unfold f_X4_count at hf
  refine Ct.ofI (cc := cX4_count) (maxL := 2) (by decide +kernel) rfl (Nat.le_of_ble_eq_true rfl) ?_
  intro p e s m args below meth c AA Q H locs ls hx hb hml hown hts hA hK hP hD hS hl hend0
  have hend : ∀ (r1 : Int32) (H : Heap) (locs : List Loc) (pc : Nat) (ls : Array Slot), some r1 = some r → va_P D vwCl (cX cI A n t k g w z q) H → va_S AA s.heap H locs → decode cX4_count pc = .ok (.ireturn, 1) → W p l e rm_X4_count s m args below meth c H locs 0 0 Q (F0 m pc ls [.int r1]) := by
    intro r1 H locs pc ls e1 hP hS hd; cases e1; exact hend0 H locs pc ls hP hS hd
  clear hend0
  have hw0 : ∀ w ∈ wsX00, w ∈ wsX4_count := by decide +kernel
  have hw1 : ∀ w ∈ wsX10, w ∈ wsX4_count := by decide +kernel
  have hw3 : ∀ w ∈ wsX30, w ∈ wsX4_count := by decide +kernel
  have hw4 : ∀ w ∈ wsX40, w ∈ wsX4_count := by decide +kernel
  have k10 := hts (.fieldLink RX4 10 "AnchorsForConfession" "now" "LAnchorsForConfession$Harbour;") (by decide +kernel)
  have k25 := hts (.fieldLink RX4 25 "AnchorsForConfession" "letters" "LAnchorsForConfession$Letters;") (by decide +kernel)
  have k32 := hts (.fieldLink RX4 32 "AnchorsForConfession" "told" "LAnchorsForConfession$Row;") (by decide +kernel)
  have k43 := hts (.fieldLink RX4 43 "AnchorsForConfession" "refusals" "[I") (by decide +kernel)
  have k136 := hts (.fieldLink RX4 136 "AnchorsForConfession$Harbour" "ships" "I") (by decide +kernel)
  have k158 := hts (.fieldLink RX4 158 "AnchorsForConfession$Harbour" "men" "I") (by decide +kernel)
  have k168 := hts (.fieldLink RX4 168 "AnchorsForConfession$Harbour" "heard" "I") (by decide +kernel)
  have k178 := hts (.fieldLink RX4 178 "AnchorsForConfession$Harbour" "tide" "I") (by decide +kernel)
  have k240 := hts (.fieldLink RX4 240 "AnchorsForConfession$Row" "size" "I") (by decide +kernel)
  have k243 := hts (.fieldLink RX4 243 "AnchorsForConfession$Letters" "size" "I") (by decide +kernel)
  replace hl : lv_has ls 2 [(0, .ref (A 0)), (1, .int p1)] := hl
  refine lv_iload_n hx hb dX4_count_0 rfl (lv_at hl 1 rfl) ?_
  refine lv_bipush (v := 11) hx hb dX4_count_1 (by decide +kernel) ?_
  refine lv_icmp_lt (tgt := 22) hx hb dX4_count_3 (by decide) (fun c_1 => ?_) (fun c_1 => ?_)
  · replace hf := if_t c_1 hf
    refine lv_iload_n hx hb dX4_count_22 rfl (lv_at hl 1 rfl) ?_
    by_cases c_2 : p1 = 0
    · replace hf := if_t c_2 hf
      refine lv_tableIn (off := 45) (tgt := 68) hx hb dX4_count_23 (by rw [c_2]; decide +kernel) (by rw [c_2]; decide +kernel) (by rw [c_2]; decide +kernel) (by decide) ?_
      refine lv_aload_n hx hb dX4_count_68 rfl (lv_at hl 0 rfl) ?_
      refine va_get (D := D) (ci := 4) (v := .ref (A 1)) (C := RX4) (T := TX4) (N := 8) hx hb hts hw4 hown hK hP 0 cX_at0 rfl 0 (by decide) k10 (fun _ h9 => h9) rfl dX4_count_69 ?_
      refine va_get (D := D) (ci := 0) (v := .int (n 16 0)) (C := RX0) (T := TX0) (N := 12) hx hb hts hw0 hown hK hP 1 cX_at1 rfl 0 (by decide) k136 (fun _ h9 => h9) rfl dX4_count_72 ?_
      exact hend (n 16 0) H locs _ _ hf hP hS dX4_count_75
    · replace hf := if_f c_2 hf
      by_cases c_3 : p1 = 1
      · replace hf := if_t c_3 hf
        refine lv_tableIn (off := 53) (tgt := 76) hx hb dX4_count_23 (by rw [c_3]; decide +kernel) (by rw [c_3]; decide +kernel) (by rw [c_3]; decide +kernel) (by decide) ?_
        refine lv_aload_n hx hb dX4_count_76 rfl (lv_at hl 0 rfl) ?_
        refine va_get (D := D) (ci := 4) (v := .ref (A 1)) (C := RX4) (T := TX4) (N := 8) hx hb hts hw4 hown hK hP 0 cX_at0 rfl 0 (by decide) k10 (fun _ h9 => h9) rfl dX4_count_77 ?_
        refine va_get (D := D) (ci := 0) (v := .int (n 16 1)) (C := RX0) (T := TX0) (N := 12) hx hb hts hw0 hown hK hP 1 cX_at1 rfl 4 (by decide) k158 (fun _ h9 => h9) rfl dX4_count_80 ?_
        exact hend (n 16 1) H locs _ _ hf hP hS dX4_count_83
      · replace hf := if_f c_3 hf
        by_cases c_4 : p1 = 2
        · replace hf := if_t c_4 hf
          refine lv_tableIn (off := 61) (tgt := 84) hx hb dX4_count_23 (by rw [c_4]; decide +kernel) (by rw [c_4]; decide +kernel) (by rw [c_4]; decide +kernel) (by decide) ?_
          refine lv_aload_n hx hb dX4_count_84 rfl (lv_at hl 0 rfl) ?_
          refine va_get (D := D) (ci := 4) (v := .ref (A 1)) (C := RX4) (T := TX4) (N := 8) hx hb hts hw4 hown hK hP 0 cX_at0 rfl 0 (by decide) k10 (fun _ h9 => h9) rfl dX4_count_85 ?_
          refine va_get (D := D) (ci := 0) (v := .int (n 16 3)) (C := RX0) (T := TX0) (N := 12) hx hb hts hw0 hown hK hP 1 cX_at1 rfl 10 (by decide) k178 (fun _ h9 => h9) rfl dX4_count_88 ?_
          exact hend (n 16 3) H locs _ _ hf hP hS dX4_count_91
        · replace hf := if_f c_4 hf
          by_cases c_5 : p1 = 3
          · replace hf := if_t c_5 hf
            refine lv_tableIn (off := 69) (tgt := 92) hx hb dX4_count_23 (by rw [c_5]; decide +kernel) (by rw [c_5]; decide +kernel) (by rw [c_5]; decide +kernel) (by decide) ?_
            refine lv_aload_n hx hb dX4_count_92 rfl (lv_at hl 0 rfl) ?_
            refine va_get (D := D) (ci := 4) (v := .ref (A 1)) (C := RX4) (T := TX4) (N := 8) hx hb hts hw4 hown hK hP 0 cX_at0 rfl 0 (by decide) k10 (fun _ h9 => h9) rfl dX4_count_93 ?_
            refine va_get (D := D) (ci := 0) (v := .int (n 16 2)) (C := RX0) (T := TX0) (N := 12) hx hb hts hw0 hown hK hP 1 cX_at1 rfl 9 (by decide) k168 (fun _ h9 => h9) rfl dX4_count_96 ?_
            exact hend (n 16 2) H locs _ _ hf hP hS dX4_count_99
          · replace hf := if_f c_5 hf
            by_cases c_6 : p1 = 4
            · replace hf := if_t c_6 hf
              refine lv_tableIn (off := 77) (tgt := 100) hx hb dX4_count_23 (by rw [c_6]; decide +kernel) (by rw [c_6]; decide +kernel) (by rw [c_6]; decide +kernel) (by decide) ?_
              refine lv_aload_n hx hb dX4_count_100 rfl (lv_at hl 0 rfl) ?_
              refine va_get (D := D) (ci := 4) (v := .ref (A 1)) (C := RX4) (T := TX4) (N := 8) hx hb hts hw4 hown hK hP 0 cX_at0 rfl 0 (by decide) k10 (fun _ h9 => h9) rfl dX4_count_101 ?_
              obtain ⟨a_7, ha_7, hf⟩ := bd_e hf
              refine Ct.callV (As := []) (rest := []) (st1 := [.int a_7]) (c_X0_outBits l D cI (fun j => A (1 + j)) n a_7 ha_7) hx hb hml hown hts (cwV 0 hts gX4_count_X0_outBits rfl rfl rfl hd_X0_outBits ⟨Nat.le_of_ble_eq_true rfl, Nat.le_of_ble_eq_true rfl⟩) (va_recv hK hP (ci := 0) (q0 := 1) rfl cX_at1) ln_X_H_n hA hK hP hD hS rfl hl.1 rfl rfl (Nat.le_of_ble_eq_true rfl) dX4_count_104 (fun H locs hP hD hS => ?_)
              exact hend a_7 H locs _ _ hf hP hS dX4_count_107
            · replace hf := if_f c_6 hf
              by_cases c_8 : p1 = 5
              · replace hf := if_t c_8 hf
                refine lv_tableIn (off := 85) (tgt := 108) hx hb dX4_count_23 (by rw [c_8]; decide +kernel) (by rw [c_8]; decide +kernel) (by rw [c_8]; decide +kernel) (by decide) ?_
                refine lv_aload_n hx hb dX4_count_108 rfl (lv_at hl 0 rfl) ?_
                refine va_get (D := D) (ci := 4) (v := .ref (A 1)) (C := RX4) (T := TX4) (N := 8) hx hb hts hw4 hown hK hP 0 cX_at0 rfl 0 (by decide) k10 (fun _ h9 => h9) rfl dX4_count_109 ?_
                obtain ⟨a_9, ha_9, hf⟩ := bd_e hf
                refine Ct.callV (As := []) (rest := []) (st1 := [.int a_9]) (c_X0_allSins l D cI (fun j => A (1 + j)) n a_9 ha_9) hx hb hml hown hts (cwV 0 hts gX4_count_X0_allSins rfl rfl rfl hd_X0_allSins ⟨Nat.le_of_ble_eq_true rfl, Nat.le_of_ble_eq_true rfl⟩) (va_recv hK hP (ci := 0) (q0 := 1) rfl cX_at1) ln_X_H_n hA hK hP hD hS rfl hl.1 rfl rfl (Nat.le_of_ble_eq_true rfl) dX4_count_112 (fun H locs hP hD hS => ?_)
                exact hend a_9 H locs _ _ hf hP hS dX4_count_115
              · replace hf := if_f c_8 hf
                by_cases c_10 : p1 = 6
                · replace hf := if_t c_10 hf
                  refine lv_tableIn (off := 93) (tgt := 116) hx hb dX4_count_23 (by rw [c_10]; decide +kernel) (by rw [c_10]; decide +kernel) (by rw [c_10]; decide +kernel) (by decide) ?_
                  refine lv_aload_n hx hb dX4_count_116 rfl (lv_at hl 0 rfl) ?_
                  refine va_get (D := D) (ci := 4) (v := .ref (A 30)) (C := RX4) (T := TX4) (N := 8) hx hb hts hw4 hown hK hP 0 cX_at0 rfl 4 (by decide) k32 (fun _ h9 => h9) rfl dX4_count_117 ?_
                  refine va_get (D := D) (ci := 3) (v := .int (w 1 0)) (C := RX3) (T := TX3) (N := 2) hx hb hts hw3 hown hK hP 30 cX_at30 rfl 1 (by decide) k240 (fun _ h9 => h9) rfl dX4_count_120 ?_
                  exact hend (w 1 0) H locs _ _ hf hP hS dX4_count_123
                · replace hf := if_f c_10 hf
                  by_cases c_11 : p1 = 7
                  · replace hf := if_t c_11 hf
                    refine lv_tableIn (off := 101) (tgt := 124) hx hb dX4_count_23 (by rw [c_11]; decide +kernel) (by rw [c_11]; decide +kernel) (by rw [c_11]; decide +kernel) (by decide) ?_
                    refine lv_aload_n hx hb dX4_count_124 rfl (lv_at hl 0 rfl) ?_
                    refine va_get (D := D) (ci := 4) (v := .ref (A 28)) (C := RX4) (T := TX4) (N := 8) hx hb hts hw4 hown hK hP 0 cX_at0 rfl 3 (by decide) k25 (fun _ h9 => h9) rfl dX4_count_125 ?_
                    refine va_get (D := D) (ci := 1) (v := .int (g 1 0)) (C := RX1) (T := TX1) (N := 2) hx hb hts hw1 hown hK hP 28 cX_at28 rfl 1 (by decide) k243 (fun _ h9 => h9) rfl dX4_count_128 ?_
                    exact hend (g 1 0) H locs _ _ hf hP hS dX4_count_131
                  · replace hf := if_f c_11 hf
                    have ht : (p1).toInt < 0 ∨ 7 < (p1).toInt := by
                      have t0 := lv_neT (a := 0) c_2 (by decide +kernel)
                      have t1 := lv_neT (a := 1) c_3 (by decide +kernel)
                      have t2 := lv_neT (a := 2) c_4 (by decide +kernel)
                      have t3 := lv_neT (a := 3) c_5 (by decide +kernel)
                      have t4 := lv_neT (a := 4) c_6 (by decide +kernel)
                      have t5 := lv_neT (a := 5) c_8 (by decide +kernel)
                      have t6 := lv_neT (a := 6) c_10 (by decide +kernel)
                      have t7 := lv_neT (a := 7) c_11 (by decide +kernel)
                      omega
                    refine lv_tableOut (tgt := 132) hx hb dX4_count_23 ht (by decide) ?_
                    refine lv_bipush (v := -9) hx hb dX4_count_132 (by decide +kernel) ?_
                    exact hend (-9 : Int32) H locs _ _ hf hP hS dX4_count_134
  · replace hf := if_f c_1 hf
    refine lv_iload_n hx hb dX4_count_6 rfl (lv_at hl 1 rfl) ?_
    refine lv_bipush (v := 16) hx hb dX4_count_7 (by decide +kernel) ?_
    refine lv_icmp_gt (tgt := 22) hx hb dX4_count_9 (by decide) (fun c_12 => ?_) (fun c_12 => ?_)
    · replace hf := if_t c_12 hf
      refine lv_iload_n hx hb dX4_count_22 rfl (lv_at hl 1 rfl) ?_
      by_cases c_13 : p1 = 0
      · replace hf := if_t c_13 hf
        refine lv_tableIn (off := 45) (tgt := 68) hx hb dX4_count_23 (by rw [c_13]; decide +kernel) (by rw [c_13]; decide +kernel) (by rw [c_13]; decide +kernel) (by decide) ?_
        refine lv_aload_n hx hb dX4_count_68 rfl (lv_at hl 0 rfl) ?_
        refine va_get (D := D) (ci := 4) (v := .ref (A 1)) (C := RX4) (T := TX4) (N := 8) hx hb hts hw4 hown hK hP 0 cX_at0 rfl 0 (by decide) k10 (fun _ h9 => h9) rfl dX4_count_69 ?_
        refine va_get (D := D) (ci := 0) (v := .int (n 16 0)) (C := RX0) (T := TX0) (N := 12) hx hb hts hw0 hown hK hP 1 cX_at1 rfl 0 (by decide) k136 (fun _ h9 => h9) rfl dX4_count_72 ?_
        exact hend (n 16 0) H locs _ _ hf hP hS dX4_count_75
      · replace hf := if_f c_13 hf
        by_cases c_14 : p1 = 1
        · replace hf := if_t c_14 hf
          refine lv_tableIn (off := 53) (tgt := 76) hx hb dX4_count_23 (by rw [c_14]; decide +kernel) (by rw [c_14]; decide +kernel) (by rw [c_14]; decide +kernel) (by decide) ?_
          refine lv_aload_n hx hb dX4_count_76 rfl (lv_at hl 0 rfl) ?_
          refine va_get (D := D) (ci := 4) (v := .ref (A 1)) (C := RX4) (T := TX4) (N := 8) hx hb hts hw4 hown hK hP 0 cX_at0 rfl 0 (by decide) k10 (fun _ h9 => h9) rfl dX4_count_77 ?_
          refine va_get (D := D) (ci := 0) (v := .int (n 16 1)) (C := RX0) (T := TX0) (N := 12) hx hb hts hw0 hown hK hP 1 cX_at1 rfl 4 (by decide) k158 (fun _ h9 => h9) rfl dX4_count_80 ?_
          exact hend (n 16 1) H locs _ _ hf hP hS dX4_count_83
        · replace hf := if_f c_14 hf
          by_cases c_15 : p1 = 2
          · replace hf := if_t c_15 hf
            refine lv_tableIn (off := 61) (tgt := 84) hx hb dX4_count_23 (by rw [c_15]; decide +kernel) (by rw [c_15]; decide +kernel) (by rw [c_15]; decide +kernel) (by decide) ?_
            refine lv_aload_n hx hb dX4_count_84 rfl (lv_at hl 0 rfl) ?_
            refine va_get (D := D) (ci := 4) (v := .ref (A 1)) (C := RX4) (T := TX4) (N := 8) hx hb hts hw4 hown hK hP 0 cX_at0 rfl 0 (by decide) k10 (fun _ h9 => h9) rfl dX4_count_85 ?_
            refine va_get (D := D) (ci := 0) (v := .int (n 16 3)) (C := RX0) (T := TX0) (N := 12) hx hb hts hw0 hown hK hP 1 cX_at1 rfl 10 (by decide) k178 (fun _ h9 => h9) rfl dX4_count_88 ?_
            exact hend (n 16 3) H locs _ _ hf hP hS dX4_count_91
          · replace hf := if_f c_15 hf
            by_cases c_16 : p1 = 3
            · replace hf := if_t c_16 hf
              refine lv_tableIn (off := 69) (tgt := 92) hx hb dX4_count_23 (by rw [c_16]; decide +kernel) (by rw [c_16]; decide +kernel) (by rw [c_16]; decide +kernel) (by decide) ?_
              refine lv_aload_n hx hb dX4_count_92 rfl (lv_at hl 0 rfl) ?_
              refine va_get (D := D) (ci := 4) (v := .ref (A 1)) (C := RX4) (T := TX4) (N := 8) hx hb hts hw4 hown hK hP 0 cX_at0 rfl 0 (by decide) k10 (fun _ h9 => h9) rfl dX4_count_93 ?_
              refine va_get (D := D) (ci := 0) (v := .int (n 16 2)) (C := RX0) (T := TX0) (N := 12) hx hb hts hw0 hown hK hP 1 cX_at1 rfl 9 (by decide) k168 (fun _ h9 => h9) rfl dX4_count_96 ?_
              exact hend (n 16 2) H locs _ _ hf hP hS dX4_count_99
            · replace hf := if_f c_16 hf
              by_cases c_17 : p1 = 4
              · replace hf := if_t c_17 hf
                refine lv_tableIn (off := 77) (tgt := 100) hx hb dX4_count_23 (by rw [c_17]; decide +kernel) (by rw [c_17]; decide +kernel) (by rw [c_17]; decide +kernel) (by decide) ?_
                refine lv_aload_n hx hb dX4_count_100 rfl (lv_at hl 0 rfl) ?_
                refine va_get (D := D) (ci := 4) (v := .ref (A 1)) (C := RX4) (T := TX4) (N := 8) hx hb hts hw4 hown hK hP 0 cX_at0 rfl 0 (by decide) k10 (fun _ h9 => h9) rfl dX4_count_101 ?_
                obtain ⟨a_18, ha_18, hf⟩ := bd_e hf
                refine Ct.callV (As := []) (rest := []) (st1 := [.int a_18]) (c_X0_outBits l D cI (fun j => A (1 + j)) n a_18 ha_18) hx hb hml hown hts (cwV 0 hts gX4_count_X0_outBits rfl rfl rfl hd_X0_outBits ⟨Nat.le_of_ble_eq_true rfl, Nat.le_of_ble_eq_true rfl⟩) (va_recv hK hP (ci := 0) (q0 := 1) rfl cX_at1) ln_X_H_n hA hK hP hD hS rfl hl.1 rfl rfl (Nat.le_of_ble_eq_true rfl) dX4_count_104 (fun H locs hP hD hS => ?_)
                exact hend a_18 H locs _ _ hf hP hS dX4_count_107
              · replace hf := if_f c_17 hf
                by_cases c_19 : p1 = 5
                · replace hf := if_t c_19 hf
                  refine lv_tableIn (off := 85) (tgt := 108) hx hb dX4_count_23 (by rw [c_19]; decide +kernel) (by rw [c_19]; decide +kernel) (by rw [c_19]; decide +kernel) (by decide) ?_
                  refine lv_aload_n hx hb dX4_count_108 rfl (lv_at hl 0 rfl) ?_
                  refine va_get (D := D) (ci := 4) (v := .ref (A 1)) (C := RX4) (T := TX4) (N := 8) hx hb hts hw4 hown hK hP 0 cX_at0 rfl 0 (by decide) k10 (fun _ h9 => h9) rfl dX4_count_109 ?_
                  obtain ⟨a_20, ha_20, hf⟩ := bd_e hf
                  refine Ct.callV (As := []) (rest := []) (st1 := [.int a_20]) (c_X0_allSins l D cI (fun j => A (1 + j)) n a_20 ha_20) hx hb hml hown hts (cwV 0 hts gX4_count_X0_allSins rfl rfl rfl hd_X0_allSins ⟨Nat.le_of_ble_eq_true rfl, Nat.le_of_ble_eq_true rfl⟩) (va_recv hK hP (ci := 0) (q0 := 1) rfl cX_at1) ln_X_H_n hA hK hP hD hS rfl hl.1 rfl rfl (Nat.le_of_ble_eq_true rfl) dX4_count_112 (fun H locs hP hD hS => ?_)
                  exact hend a_20 H locs _ _ hf hP hS dX4_count_115
                · replace hf := if_f c_19 hf
                  by_cases c_21 : p1 = 6
                  · replace hf := if_t c_21 hf
                    refine lv_tableIn (off := 93) (tgt := 116) hx hb dX4_count_23 (by rw [c_21]; decide +kernel) (by rw [c_21]; decide +kernel) (by rw [c_21]; decide +kernel) (by decide) ?_
                    refine lv_aload_n hx hb dX4_count_116 rfl (lv_at hl 0 rfl) ?_
                    refine va_get (D := D) (ci := 4) (v := .ref (A 30)) (C := RX4) (T := TX4) (N := 8) hx hb hts hw4 hown hK hP 0 cX_at0 rfl 4 (by decide) k32 (fun _ h9 => h9) rfl dX4_count_117 ?_
                    refine va_get (D := D) (ci := 3) (v := .int (w 1 0)) (C := RX3) (T := TX3) (N := 2) hx hb hts hw3 hown hK hP 30 cX_at30 rfl 1 (by decide) k240 (fun _ h9 => h9) rfl dX4_count_120 ?_
                    exact hend (w 1 0) H locs _ _ hf hP hS dX4_count_123
                  · replace hf := if_f c_21 hf
                    by_cases c_22 : p1 = 7
                    · replace hf := if_t c_22 hf
                      refine lv_tableIn (off := 101) (tgt := 124) hx hb dX4_count_23 (by rw [c_22]; decide +kernel) (by rw [c_22]; decide +kernel) (by rw [c_22]; decide +kernel) (by decide) ?_
                      refine lv_aload_n hx hb dX4_count_124 rfl (lv_at hl 0 rfl) ?_
                      refine va_get (D := D) (ci := 4) (v := .ref (A 28)) (C := RX4) (T := TX4) (N := 8) hx hb hts hw4 hown hK hP 0 cX_at0 rfl 3 (by decide) k25 (fun _ h9 => h9) rfl dX4_count_125 ?_
                      refine va_get (D := D) (ci := 1) (v := .int (g 1 0)) (C := RX1) (T := TX1) (N := 2) hx hb hts hw1 hown hK hP 28 cX_at28 rfl 1 (by decide) k243 (fun _ h9 => h9) rfl dX4_count_128 ?_
                      exact hend (g 1 0) H locs _ _ hf hP hS dX4_count_131
                    · replace hf := if_f c_22 hf
                      have ht : (p1).toInt < 0 ∨ 7 < (p1).toInt := by
                        have t0 := lv_neT (a := 0) c_13 (by decide +kernel)
                        have t1 := lv_neT (a := 1) c_14 (by decide +kernel)
                        have t2 := lv_neT (a := 2) c_15 (by decide +kernel)
                        have t3 := lv_neT (a := 3) c_16 (by decide +kernel)
                        have t4 := lv_neT (a := 4) c_17 (by decide +kernel)
                        have t5 := lv_neT (a := 5) c_19 (by decide +kernel)
                        have t6 := lv_neT (a := 6) c_21 (by decide +kernel)
                        have t7 := lv_neT (a := 7) c_22 (by decide +kernel)
                        omega
                      refine lv_tableOut (tgt := 132) hx hb dX4_count_23 ht (by decide) ?_
                      refine lv_bipush (v := -9) hx hb dX4_count_132 (by decide +kernel) ?_
                      exact hend (-9 : Int32) H locs _ _ hf hP hS dX4_count_134
    · replace hf := if_f c_12 hf
      refine lv_aload_n hx hb dX4_count_12 rfl (lv_at hl 0 rfl) ?_
      refine va_get (D := D) (ci := 4) (v := .ref (A 33)) (C := RX4) (T := TX4) (N := 8) hx hb hts hw4 hown hK hP 0 cX_at0 rfl 6 (by decide) k43 (fun _ h9 => h9) rfl dX4_count_13 ?_
      refine lv_iload_n hx hb dX4_count_16 rfl (lv_at hl 1 rfl) ?_
      refine lv_bipush (v := 10) hx hb dX4_count_17 (by decide +kernel) ?_
      refine lv_isub hx hb dX4_count_19 ?_
      obtain ⟨c_23, hf⟩ := gi_e hf
      refine va_iald hx hb hK hP 33 0 cX_at33 rfl c_23 dX4_count_20 ?_
      exact hend (q 0 ((p1 - (10 : Int32))).toNatClampNeg) H locs _ _ hf hP hS dX4_count_21
