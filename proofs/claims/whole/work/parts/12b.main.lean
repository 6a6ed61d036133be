def rm_X4_spree : Room := { frames := 4, cells := 0, slots := 0, locals := 89 }
theorem hd_X4_spree : yX4_spree.cls = RX4 ∧ yX4_spree.cls ≠ "java/lang/invoke/MethodHandle" ∧ yX4_spree.cls ≠ "java/lang/invoke/VarHandle" ∧ (parseMethodDescriptor yX4_spree.desc).map (fun d => d.parameters.length) = some 1 := by decide +kernel
set_option maxRecDepth 100000 in
set_option maxHeartbeats 4000000 in
theorem c_X4_spree (l : Launch) (D : va_G) (cI : ClassId) (A : Nat → Nat) (n : St) (t : St) (k : St) (g : St) (w : St) (z : St) (q : St) (p1 : Int32) (r : Int32 × St × St) (hf : f_X4_spree n t k g w z q p1 = some r) : Ct l yX4_spree wsX4_spree rm_X4_spree D cI (cX cI A n t k g w z q) (cX cI A n r.2.1 k g w z r.2.2) [.ref (A 0), .int p1] (some (.int r.1)) := by
  unfold f_X4_spree at hf
  refine Ct.ofI (cc := cX4_spree) (maxL := 3) (by decide +kernel) rfl (Nat.le_of_ble_eq_true rfl) ?_
  intro p e s m args below meth c AA Q H locs ls hx hb hml hown hts hA hK hP hD hS hl hend0
  have hend : ∀ (r1 : Int32 × St × St) (H : Heap) (locs : List Loc) (pc : Nat) (ls : Array Slot), some r1 = some r → va_P D vwCl (cX cI A n r1.2.1 k g w z r1.2.2) H → va_S AA s.heap H locs → decode cX4_spree pc = .ok (.ireturn, 1) → W p l e rm_X4_spree s m args below meth c H locs 0 0 Q (F0 m pc ls [.int r1.1]) := by
    intro r1 H locs pc ls e1 hP hS hd; cases e1; exact hend0 H locs pc ls hP hS hd
  clear hend0
  have hw0 : ∀ w ∈ wsX00, w ∈ wsX4_spree := by decide +kernel
  have hw4 : ∀ w ∈ wsX40, w ∈ wsX4_spree := by decide +kernel
  have k10 := hts (.fieldLink RX4 10 "AnchorsForConfession" "now" "LAnchorsForConfession$Harbour;") (by decide +kernel)
  have k16 := hts (.fieldLink RX4 16 "AnchorsForConfession" "thought" "LAnchorsForConfession$Harbour;") (by decide +kernel)
  have k155 := hts (.fieldLink RX4 155 "AnchorsForConfession$Harbour" "men" "I") (by decide +kernel)
  have k167 := hts (.fieldLink RX4 167 "AnchorsForConfession$Harbour" "heard" "I") (by decide +kernel)
  replace hl : lv_has ls 3 [(0, .ref (A 0)), (1, .int p1)] := hl
  refine lv_iload_n hx hb dX4_spree_0 rfl (lv_at hl 1 rfl) ?_
  refine lv_if_eq (tgt := 16) hx hb dX4_spree_1 (by decide) (fun c_1 => ?_) (fun c_1 => ?_)
  · replace hf := if_t c_1 hf
    refine lv_aload_n hx hb dX4_spree_16 rfl (lv_at hl 0 rfl) ?_
    refine va_get (D := D) (ci := 4) (v := .ref (A 10)) (C := RX4) (T := TX4) (N := 8) hx hb hts hw4 hown hK hP 0 cX_at0 rfl 1 (by decide) k16 (fun _ h9 => h9) rfl dX4_spree_17 ?_
    refine lv_aload_n hx hb dX4_spree_20 rfl (lv_at hl 0 rfl) ?_
    refine va_get (D := D) (ci := 4) (v := .ref (A 1)) (C := RX4) (T := TX4) (N := 8) hx hb hts hw4 hown hK hP 0 cX_at0 rfl 0 (by decide) k10 (fun _ h9 => h9) rfl dX4_spree_21 ?_
    obtain ⟨a_2, ha_2, hf⟩ := bd_e hf
    refine Ct.callV (As := [.ref (A 1)]) (rest := []) (st1 := []) (c_X0_copyFrom l D cI (fun j => A (10 + j)) (fun j => A (1 + j)) t n a_2 ha_2) hx hb hml hown hts (cwV 1 hts gX4_spree_X0_copyFrom rfl rfl rfl hd_X0_copyFrom ⟨Nat.le_of_ble_eq_true rfl, Nat.le_of_ble_eq_true rfl⟩) (va_recv hK hP (ci := 0) (q0 := 10) rfl cX_at10) ln_X_HH_tn hA hK hP hD hS rfl hl.1 rfl rfl (Nat.le_of_ble_eq_true rfl) dX4_spree_24 (fun H locs hP hD hS => ?_)
    replace hP : va_P D vwCl (cX cI A n a_2 k g w z q) H := hP
    replace hD : va_D AA (cX cI A n a_2 k g w z q) := hD
    refine lv_iconst (v := 0) hx hb dX4_spree_27 (by decide) ?_
    refine lv_istore_n (lv' := [(2, .int (0 : Int32)), (0, .ref (A 0)), (1, .int p1)]) hx hb dX4_spree_28 rfl hl (by decide) rfl (fun ls hl => ?_)
    refine lp_ind (P := fun (q29 : Int32 × St) => ∀ (H : Heap) (locs : List Loc) (ls : Array Slot), va_P D vwCl (cX cI A n q29.2 k g w z q) H → va_D AA (cX cI A n q29.2 k g w z q) → va_S AA s.heap H locs → lv_has ls 3 [(0, .ref (A 0)), (1, .int p1), (2, .int q29.1)] → W p l e rm_X4_spree s m args below meth c H locs 0 0 Q (F0 m 29 ls [])) hf ?_ H locs ls hP hD hS (lv_sub hl [1, 2, 0] rfl)
    clear hf hP hD hS hl
    intro nx29 ih29 q29 hf H locs ls hP hD hS hl
    refine lv_iload_n hx hb dX4_spree_29 rfl (lv_at hl 2 rfl) ?_
    refine lv_aload_n hx hb dX4_spree_30 rfl (lv_at hl 0 rfl) ?_
    refine va_get (D := D) (ci := 4) (v := .ref (A 1)) (C := RX4) (T := TX4) (N := 8) hx hb hts hw4 hown hK hP 0 cX_at0 rfl 0 (by decide) k10 (fun _ h9 => h9) rfl dX4_spree_31 ?_
    refine va_get (D := D) (ci := 0) (v := .int (n 16 1)) (C := RX0) (T := TX0) (N := 12) hx hb hts hw0 hown hK hP 1 cX_at1 rfl 4 (by decide) k155 (fun _ h9 => h9) rfl dX4_spree_34 ?_
    refine lv_icmp_ge (tgt := 55) hx hb dX4_spree_37 (by decide) (fun c_3 => ?_) (fun c_3 => ?_)
    · replace hf := if_t c_3 hf
      refine lv_iload_n hx hb dX4_spree_55 rfl (lv_at hl 1 rfl) ?_
      refine lv_if_ne (tgt := 72) hx hb dX4_spree_56 (by decide) (fun c_4 => ?_) (fun c_4 => ?_)
      · replace hf := if_f c_4 hf
        refine lv_aload_n hx hb dX4_spree_72 rfl (lv_at hl 0 rfl) ?_
        refine va_get (D := D) (ci := 4) (v := .ref (A 10)) (C := RX4) (T := TX4) (N := 8) hx hb hts hw4 hown hK hP 0 cX_at0 rfl 1 (by decide) k16 (fun _ h9 => h9) rfl dX4_spree_73 ?_
        refine va_get (D := D) (ci := 0) (v := .int (q29.2 16 2)) (C := RX0) (T := TX0) (N := 12) hx hb hts hw0 hown hK hP 10 cX_at10 rfl 9 (by decide) k167 (fun _ h9 => h9) rfl dX4_spree_76 ?_
        exact hend ((q29.2 16 2), q29.2, q) H locs _ _ hf hP hS dX4_spree_79
      · replace hf := if_t c_4 hf
        refine lv_aload_n hx hb dX4_spree_59 rfl (lv_at hl 0 rfl) ?_
        refine va_get (D := D) (ci := 4) (v := .ref (A 10)) (C := RX4) (T := TX4) (N := 8) hx hb hts hw4 hown hK hP 0 cX_at0 rfl 1 (by decide) k16 (fun _ h9 => h9) rfl dX4_spree_60 ?_
        obtain ⟨a_5, ha_5, hf⟩ := bd_e hf
        refine Ct.callV (As := []) (rest := []) (st1 := [.int a_5]) (c_X0_outBits l D cI (fun j => A (10 + j)) q29.2 a_5 ha_5) hx hb hml hown hts (cwV 0 hts gX4_spree_X0_outBits rfl rfl rfl hd_X0_outBits ⟨Nat.le_of_ble_eq_true rfl, Nat.le_of_ble_eq_true rfl⟩) (va_recv hK hP (ci := 0) (q0 := 10) rfl cX_at10) ln_X_H_t hA hK hP hD hS rfl hl.1 rfl rfl (Nat.le_of_ble_eq_true rfl) dX4_spree_63 (fun H locs hP hD hS => ?_)
        obtain ⟨a_6, ha_6, hf⟩ := bd_e hf
        refine Ct.callS (As := [.int a_5]) (rest := []) (st1 := [.int a_6]) (c_J6_bitCount_0f7a4 l D cI  a_5 a_6 ha_6) hx hb hml hown hts (va_cwS 1 hts gX4_spree_J6_bitCount_0f7a4 rfl rfl rfl hd_J6_bitCount_0f7a4 ⟨Nat.le_of_ble_eq_true rfl, Nat.le_of_ble_eq_true rfl⟩) Ln.nil hA hK hP hD hS rfl hl.1 rfl rfl (Nat.le_of_ble_eq_true rfl) dX4_spree_66 (fun H locs hP hD hS => ?_)
        refine lv_goto (tgt := 79) hx hb dX4_spree_69 (by decide) ?_
        exact hend (a_6, q29.2, q) H locs _ _ hf hP hS dX4_spree_79
    · replace hf := if_f c_3 hf
      refine lv_aload_n hx hb dX4_spree_40 rfl (lv_at hl 0 rfl) ?_
      refine va_get (D := D) (ci := 4) (v := .ref (A 10)) (C := RX4) (T := TX4) (N := 8) hx hb hts hw4 hown hK hP 0 cX_at0 rfl 1 (by decide) k16 (fun _ h9 => h9) rfl dX4_spree_41 ?_
      refine lv_iload_n hx hb dX4_spree_44 rfl (lv_at hl 2 rfl) ?_
      obtain ⟨a_7, ha_7, hf⟩ := bd_e hf
      refine Ct.callV (As := [.int q29.1]) (rest := []) (st1 := [.int a_7.1]) (c_X0_word l D cI (fun j => A (10 + j)) q29.2 q29.1 a_7 ha_7) hx hb hml hown hts (cwV 1 hts gX4_spree_X0_word rfl rfl rfl hd_X0_word ⟨Nat.le_of_ble_eq_true rfl, Nat.le_of_ble_eq_true rfl⟩) (va_recv hK hP (ci := 0) (q0 := 10) rfl cX_at10) ln_X_H_t hA hK hP hD hS rfl hl.1 rfl rfl (Nat.le_of_ble_eq_true rfl) dX4_spree_45 (fun H locs hP hD hS => ?_)
      replace hP : va_P D vwCl (cX cI A n a_7.2 k g w z q) H := hP
      replace hD : va_D AA (cX cI A n a_7.2 k g w z q) := hD
      refine lv_pop hx hb dX4_spree_48 rfl ?_
      obtain ⟨v_8, ev_8, hf⟩ := nq_e hf
      refine lv_iinc (v := v_8) (lv' := [(2, .int v_8), (0, .ref (A 0)), (1, .int p1)]) hx hb dX4_spree_49 hl (k := 2) rfl (by rw [ev_8]; rfl) (by decide) rfl (fun ls hl => ?_)
      refine lv_goto (tgt := 29) hx hb dX4_spree_52 (by decide) ?_
      exact ih29 (v_8, a_7.2) hf H locs ls hP hD hS (lv_sub hl [1, 2, 0] rfl)
  · replace hf := if_f c_1 hf
    refine lv_iload_n hx hb dX4_spree_4 rfl (lv_at hl 1 rfl) ?_
    refine lv_iconst (v := 1) hx hb dX4_spree_5 (by decide) ?_
    refine lv_icmp_eq (tgt := 16) hx hb dX4_spree_6 (by decide) (fun c_9 => ?_) (fun c_9 => ?_)
    · replace hf := if_t c_9 hf
      refine lv_aload_n hx hb dX4_spree_16 rfl (lv_at hl 0 rfl) ?_
      refine va_get (D := D) (ci := 4) (v := .ref (A 10)) (C := RX4) (T := TX4) (N := 8) hx hb hts hw4 hown hK hP 0 cX_at0 rfl 1 (by decide) k16 (fun _ h9 => h9) rfl dX4_spree_17 ?_
      refine lv_aload_n hx hb dX4_spree_20 rfl (lv_at hl 0 rfl) ?_
      refine va_get (D := D) (ci := 4) (v := .ref (A 1)) (C := RX4) (T := TX4) (N := 8) hx hb hts hw4 hown hK hP 0 cX_at0 rfl 0 (by decide) k10 (fun _ h9 => h9) rfl dX4_spree_21 ?_
      obtain ⟨a_10, ha_10, hf⟩ := bd_e hf
      refine Ct.callV (As := [.ref (A 1)]) (rest := []) (st1 := []) (c_X0_copyFrom l D cI (fun j => A (10 + j)) (fun j => A (1 + j)) t n a_10 ha_10) hx hb hml hown hts (cwV 1 hts gX4_spree_X0_copyFrom rfl rfl rfl hd_X0_copyFrom ⟨Nat.le_of_ble_eq_true rfl, Nat.le_of_ble_eq_true rfl⟩) (va_recv hK hP (ci := 0) (q0 := 10) rfl cX_at10) ln_X_HH_tn hA hK hP hD hS rfl hl.1 rfl rfl (Nat.le_of_ble_eq_true rfl) dX4_spree_24 (fun H locs hP hD hS => ?_)
      replace hP : va_P D vwCl (cX cI A n a_10 k g w z q) H := hP
      replace hD : va_D AA (cX cI A n a_10 k g w z q) := hD
      refine lv_iconst (v := 0) hx hb dX4_spree_27 (by decide) ?_
      refine lv_istore_n (lv' := [(2, .int (0 : Int32)), (0, .ref (A 0)), (1, .int p1)]) hx hb dX4_spree_28 rfl hl (by decide) rfl (fun ls hl => ?_)
      refine lp_ind (P := fun (q29 : Int32 × St) => ∀ (H : Heap) (locs : List Loc) (ls : Array Slot), va_P D vwCl (cX cI A n q29.2 k g w z q) H → va_D AA (cX cI A n q29.2 k g w z q) → va_S AA s.heap H locs → lv_has ls 3 [(0, .ref (A 0)), (1, .int p1), (2, .int q29.1)] → W p l e rm_X4_spree s m args below meth c H locs 0 0 Q (F0 m 29 ls [])) hf ?_ H locs ls hP hD hS (lv_sub hl [1, 2, 0] rfl)
      clear hf hP hD hS hl
      intro nx29 ih29 q29 hf H locs ls hP hD hS hl
      refine lv_iload_n hx hb dX4_spree_29 rfl (lv_at hl 2 rfl) ?_
      refine lv_aload_n hx hb dX4_spree_30 rfl (lv_at hl 0 rfl) ?_
      refine va_get (D := D) (ci := 4) (v := .ref (A 1)) (C := RX4) (T := TX4) (N := 8) hx hb hts hw4 hown hK hP 0 cX_at0 rfl 0 (by decide) k10 (fun _ h9 => h9) rfl dX4_spree_31 ?_
      refine va_get (D := D) (ci := 0) (v := .int (n 16 1)) (C := RX0) (T := TX0) (N := 12) hx hb hts hw0 hown hK hP 1 cX_at1 rfl 4 (by decide) k155 (fun _ h9 => h9) rfl dX4_spree_34 ?_
      refine lv_icmp_ge (tgt := 55) hx hb dX4_spree_37 (by decide) (fun c_11 => ?_) (fun c_11 => ?_)
      · replace hf := if_t c_11 hf
        refine lv_iload_n hx hb dX4_spree_55 rfl (lv_at hl 1 rfl) ?_
        refine lv_if_ne (tgt := 72) hx hb dX4_spree_56 (by decide) (fun c_12 => ?_) (fun c_12 => ?_)
        · replace hf := if_f c_12 hf
          refine lv_aload_n hx hb dX4_spree_72 rfl (lv_at hl 0 rfl) ?_
          refine va_get (D := D) (ci := 4) (v := .ref (A 10)) (C := RX4) (T := TX4) (N := 8) hx hb hts hw4 hown hK hP 0 cX_at0 rfl 1 (by decide) k16 (fun _ h9 => h9) rfl dX4_spree_73 ?_
          refine va_get (D := D) (ci := 0) (v := .int (q29.2 16 2)) (C := RX0) (T := TX0) (N := 12) hx hb hts hw0 hown hK hP 10 cX_at10 rfl 9 (by decide) k167 (fun _ h9 => h9) rfl dX4_spree_76 ?_
          exact hend ((q29.2 16 2), q29.2, q) H locs _ _ hf hP hS dX4_spree_79
        · replace hf := if_t c_12 hf
          refine lv_aload_n hx hb dX4_spree_59 rfl (lv_at hl 0 rfl) ?_
          refine va_get (D := D) (ci := 4) (v := .ref (A 10)) (C := RX4) (T := TX4) (N := 8) hx hb hts hw4 hown hK hP 0 cX_at0 rfl 1 (by decide) k16 (fun _ h9 => h9) rfl dX4_spree_60 ?_
          obtain ⟨a_13, ha_13, hf⟩ := bd_e hf
          refine Ct.callV (As := []) (rest := []) (st1 := [.int a_13]) (c_X0_outBits l D cI (fun j => A (10 + j)) q29.2 a_13 ha_13) hx hb hml hown hts (cwV 0 hts gX4_spree_X0_outBits rfl rfl rfl hd_X0_outBits ⟨Nat.le_of_ble_eq_true rfl, Nat.le_of_ble_eq_true rfl⟩) (va_recv hK hP (ci := 0) (q0 := 10) rfl cX_at10) ln_X_H_t hA hK hP hD hS rfl hl.1 rfl rfl (Nat.le_of_ble_eq_true rfl) dX4_spree_63 (fun H locs hP hD hS => ?_)
          obtain ⟨a_14, ha_14, hf⟩ := bd_e hf
          refine Ct.callS (As := [.int a_13]) (rest := []) (st1 := [.int a_14]) (c_J6_bitCount_0f7a4 l D cI  a_13 a_14 ha_14) hx hb hml hown hts (va_cwS 1 hts gX4_spree_J6_bitCount_0f7a4 rfl rfl rfl hd_J6_bitCount_0f7a4 ⟨Nat.le_of_ble_eq_true rfl, Nat.le_of_ble_eq_true rfl⟩) Ln.nil hA hK hP hD hS rfl hl.1 rfl rfl (Nat.le_of_ble_eq_true rfl) dX4_spree_66 (fun H locs hP hD hS => ?_)
          refine lv_goto (tgt := 79) hx hb dX4_spree_69 (by decide) ?_
          exact hend (a_14, q29.2, q) H locs _ _ hf hP hS dX4_spree_79
      · replace hf := if_f c_11 hf
        refine lv_aload_n hx hb dX4_spree_40 rfl (lv_at hl 0 rfl) ?_
        refine va_get (D := D) (ci := 4) (v := .ref (A 10)) (C := RX4) (T := TX4) (N := 8) hx hb hts hw4 hown hK hP 0 cX_at0 rfl 1 (by decide) k16 (fun _ h9 => h9) rfl dX4_spree_41 ?_
        refine lv_iload_n hx hb dX4_spree_44 rfl (lv_at hl 2 rfl) ?_
        obtain ⟨a_15, ha_15, hf⟩ := bd_e hf
        refine Ct.callV (As := [.int q29.1]) (rest := []) (st1 := [.int a_15.1]) (c_X0_word l D cI (fun j => A (10 + j)) q29.2 q29.1 a_15 ha_15) hx hb hml hown hts (cwV 1 hts gX4_spree_X0_word rfl rfl rfl hd_X0_word ⟨Nat.le_of_ble_eq_true rfl, Nat.le_of_ble_eq_true rfl⟩) (va_recv hK hP (ci := 0) (q0 := 10) rfl cX_at10) ln_X_H_t hA hK hP hD hS rfl hl.1 rfl rfl (Nat.le_of_ble_eq_true rfl) dX4_spree_45 (fun H locs hP hD hS => ?_)
        replace hP : va_P D vwCl (cX cI A n a_15.2 k g w z q) H := hP
        replace hD : va_D AA (cX cI A n a_15.2 k g w z q) := hD
        refine lv_pop hx hb dX4_spree_48 rfl ?_
        obtain ⟨v_16, ev_16, hf⟩ := nq_e hf
        refine lv_iinc (v := v_16) (lv' := [(2, .int v_16), (0, .ref (A 0)), (1, .int p1)]) hx hb dX4_spree_49 hl (k := 2) rfl (by rw [ev_16]; rfl) (by decide) rfl (fun ls hl => ?_)
        refine lv_goto (tgt := 29) hx hb dX4_spree_52 (by decide) ?_
        exact ih29 (v_16, a_15.2) hf H locs ls hP hD hS (lv_sub hl [1, 2, 0] rfl)
    · replace hf := if_f c_9 hf
      refine lv_aload_n hx hb dX4_spree_9 rfl (lv_at hl 0 rfl) ?_
      refine lv_bipush (v := -2) hx hb dX4_spree_10 (by decide +kernel) ?_
      obtain ⟨a_17, ha_17, hf⟩ := bd_e hf
      refine Ct.callV (As := [.int (-2 : Int32)]) (rest := []) (st1 := [.int a_17.1]) (c_X4_refused l D cI A n t k g w z q (-2 : Int32) a_17 ha_17) hx hb hml hown hts (cwV 1 hts gX4_spree_X4_refused rfl rfl rfl hd_X4_refused ⟨Nat.le_of_ble_eq_true rfl, Nat.le_of_ble_eq_true rfl⟩) (va_recv hK hP (ci := 4) (q0 := 0) rfl cX_at0) (Ln.id rfl) hA hK hP hD hS rfl hl.1 rfl rfl (Nat.le_of_ble_eq_true rfl) dX4_spree_12 (fun H locs hP hD hS => ?_)
      replace hP : va_P D vwCl (cX cI A n t k g w z a_17.2) H := hP
      replace hD : va_D AA (cX cI A n t k g w z a_17.2) := hD
      exact hend (a_17.1, t, a_17.2) H locs _ _ hf hP hS dX4_spree_15

def rm_X4_lacksBehindWord : Room := { frames := 4, cells := 0, slots := 0, locals := 89 }
theorem hd_X4_lacksBehindWord : yX4_lacksBehindWord.cls = RX4 ∧ yX4_lacksBehindWord.cls ≠ "java/lang/invoke/MethodHandle" ∧ yX4_lacksBehindWord.cls ≠ "java/lang/invoke/VarHandle" ∧ (parseMethodDescriptor yX4_lacksBehindWord.desc).map (fun d => d.parameters.length) = some 2 := by decide +kernel
set_option maxRecDepth 100000 in
set_option maxHeartbeats 4000000 in
theorem c_X4_lacksBehindWord (l : Launch) (D : va_G) (cI : ClassId) (A : Nat → Nat) (n : St) (t : St) (k : St) (g : St) (w : St) (z : St) (q : St) (p1 : Int32) (p2 : Int32) (r : Int32 × St) (hf : f_X4_lacksBehindWord n t k g w z q p1 p2 = some r) : Ct l yX4_lacksBehindWord wsX4_lacksBehindWord rm_X4_lacksBehindWord D cI (cX cI A n t k g w z q) (cX cI A n r.2 k g w z q) [.ref (A 0), .int p1, .int p2] (some (.int r.1)) := by
  unfold f_X4_lacksBehindWord at hf
  refine Ct.ofI (cc := cX4_lacksBehindWord) (maxL := 3) (by decide +kernel) rfl (Nat.le_of_ble_eq_true rfl) ?_
  intro p e s m args below meth c AA Q H locs ls hx hb hml hown hts hA hK hP hD hS hl hend0
  have hend : ∀ (r1 : Int32 × St) (H : Heap) (locs : List Loc) (pc : Nat) (ls : Array Slot), some r1 = some r → va_P D vwCl (cX cI A n r1.2 k g w z q) H → va_S AA s.heap H locs → decode cX4_lacksBehindWord pc = .ok (.ireturn, 1) → W p l e rm_X4_lacksBehindWord s m args below meth c H locs 0 0 Q (F0 m pc ls [.int r1.1]) := by
    intro r1 H locs pc ls e1 hP hS hd; cases e1; exact hend0 H locs pc ls hP hS hd
  clear hend0
  have hw0 : ∀ w ∈ wsX00, w ∈ wsX4_lacksBehindWord := by decide +kernel
  have hw4 : ∀ w ∈ wsX40, w ∈ wsX4_lacksBehindWord := by decide +kernel
  have k10 := hts (.fieldLink RX4 10 "AnchorsForConfession" "now" "LAnchorsForConfession$Harbour;") (by decide +kernel)
  have k16 := hts (.fieldLink RX4 16 "AnchorsForConfession" "thought" "LAnchorsForConfession$Harbour;") (by decide +kernel)
  have k86 := hts (.fieldLink RX4 86 "AnchorsForConfession$Harbour" "aboard" "[I") (by decide +kernel)
  replace hl : lv_has ls 3 [(0, .ref (A 0)), (1, .int p1), (2, .int p2)] := hl
  refine lv_aload_n hx hb dX4_lacksBehindWord_0 rfl (lv_at hl 0 rfl) ?_
  refine va_get (D := D) (ci := 4) (v := .ref (A 10)) (C := RX4) (T := TX4) (N := 8) hx hb hts hw4 hown hK hP 0 cX_at0 rfl 1 (by decide) k16 (fun _ h9 => h9) rfl dX4_lacksBehindWord_1 ?_
  refine lv_aload_n hx hb dX4_lacksBehindWord_4 rfl (lv_at hl 0 rfl) ?_
  refine va_get (D := D) (ci := 4) (v := .ref (A 1)) (C := RX4) (T := TX4) (N := 8) hx hb hts hw4 hown hK hP 0 cX_at0 rfl 0 (by decide) k10 (fun _ h9 => h9) rfl dX4_lacksBehindWord_5 ?_
  obtain ⟨a_1, ha_1, hf⟩ := bd_e hf
  refine Ct.callV (As := [.ref (A 1)]) (rest := []) (st1 := []) (c_X0_copyFrom l D cI (fun j => A (10 + j)) (fun j => A (1 + j)) t n a_1 ha_1) hx hb hml hown hts (cwV 1 hts gX4_lacksBehindWord_X0_copyFrom rfl rfl rfl hd_X0_copyFrom ⟨Nat.le_of_ble_eq_true rfl, Nat.le_of_ble_eq_true rfl⟩) (va_recv hK hP (ci := 0) (q0 := 10) rfl cX_at10) ln_X_HH_tn hA hK hP hD hS rfl hl.1 rfl rfl (Nat.le_of_ble_eq_true rfl) dX4_lacksBehindWord_8 (fun H locs hP hD hS => ?_)
  replace hP : va_P D vwCl (cX cI A n a_1 k g w z q) H := hP
  replace hD : va_D AA (cX cI A n a_1 k g w z q) := hD
  refine lv_aload_n hx hb dX4_lacksBehindWord_11 rfl (lv_at hl 0 rfl) ?_
  refine va_get (D := D) (ci := 4) (v := .ref (A 10)) (C := RX4) (T := TX4) (N := 8) hx hb hts hw4 hown hK hP 0 cX_at0 rfl 1 (by decide) k16 (fun _ h9 => h9) rfl dX4_lacksBehindWord_12 ?_
  refine lv_iload_n hx hb dX4_lacksBehindWord_15 rfl (lv_at hl 2 rfl) ?_
  obtain ⟨a_2, ha_2, hf⟩ := bd_e hf
  refine Ct.callV (As := [.int p2]) (rest := []) (st1 := []) (c_X0_passTides l D cI (fun j => A (10 + j)) a_1 p2 a_2 ha_2) hx hb hml hown hts (cwV 1 hts gX4_lacksBehindWord_X0_passTides rfl rfl rfl hd_X0_passTides ⟨Nat.le_of_ble_eq_true rfl, Nat.le_of_ble_eq_true rfl⟩) (va_recv hK hP (ci := 0) (q0 := 10) rfl cX_at10) ln_X_H_t hA hK hP hD hS rfl hl.1 rfl rfl (Nat.le_of_ble_eq_true rfl) dX4_lacksBehindWord_16 (fun H locs hP hD hS => ?_)
  replace hP : va_P D vwCl (cX cI A n a_2 k g w z q) H := hP
  replace hD : va_D AA (cX cI A n a_2 k g w z q) := hD
  refine lv_aload_n hx hb dX4_lacksBehindWord_19 rfl (lv_at hl 0 rfl) ?_
  refine va_get (D := D) (ci := 4) (v := .ref (A 10)) (C := RX4) (T := TX4) (N := 8) hx hb hts hw4 hown hK hP 0 cX_at0 rfl 1 (by decide) k16 (fun _ h9 => h9) rfl dX4_lacksBehindWord_20 ?_
  refine lv_iload_n hx hb dX4_lacksBehindWord_23 rfl (lv_at hl 1 rfl) ?_
  obtain ⟨a_3, ha_3, hf⟩ := bd_e hf
  refine Ct.callV (As := [.int p1]) (rest := []) (st1 := [.int a_3.1]) (c_X0_word l D cI (fun j => A (10 + j)) a_2 p1 a_3 ha_3) hx hb hml hown hts (cwV 1 hts gX4_lacksBehindWord_X0_word rfl rfl rfl hd_X0_word ⟨Nat.le_of_ble_eq_true rfl, Nat.le_of_ble_eq_true rfl⟩) (va_recv hK hP (ci := 0) (q0 := 10) rfl cX_at10) ln_X_H_t hA hK hP hD hS rfl hl.1 rfl rfl (Nat.le_of_ble_eq_true rfl) dX4_lacksBehindWord_24 (fun H locs hP hD hS => ?_)
  replace hP : va_P D vwCl (cX cI A n a_3.2 k g w z q) H := hP
  replace hD : va_D AA (cX cI A n a_3.2 k g w z q) := hD
  refine lv_pop hx hb dX4_lacksBehindWord_27 rfl ?_
  refine lv_aload_n hx hb dX4_lacksBehindWord_28 rfl (lv_at hl 0 rfl) ?_
  refine va_get (D := D) (ci := 4) (v := .ref (A 10)) (C := RX4) (T := TX4) (N := 8) hx hb hts hw4 hown hK hP 0 cX_at0 rfl 1 (by decide) k16 (fun _ h9 => h9) rfl dX4_lacksBehindWord_29 ?_
  refine lv_aload_n hx hb dX4_lacksBehindWord_32 rfl (lv_at hl 0 rfl) ?_
  refine va_get (D := D) (ci := 4) (v := .ref (A 10)) (C := RX4) (T := TX4) (N := 8) hx hb hts hw4 hown hK hP 0 cX_at0 rfl 1 (by decide) k16 (fun _ h9 => h9) rfl dX4_lacksBehindWord_33 ?_
  refine va_get (D := D) (ci := 0) (v := .ref (A 17)) (C := RX0) (T := TX0) (N := 12) hx hb hts hw0 hown hK hP 10 cX_at10 rfl 8 (by decide) k86 (fun _ h9 => h9) rfl dX4_lacksBehindWord_36 ?_
  refine lv_iload_n hx hb dX4_lacksBehindWord_39 rfl (lv_at hl 1 rfl) ?_
  obtain ⟨c_4, hf⟩ := gi_e hf
  refine va_iald hx hb hK hP 17 0 cX_at17 rfl c_4 dX4_lacksBehindWord_40 ?_
  obtain ⟨a_5, ha_5, hf⟩ := bd_e hf
  refine Ct.callV (As := [.int (a_3.2 7 (p1).toNatClampNeg)]) (rest := []) (st1 := [.int a_5]) (c_X0_lacks l D cI (fun j => A (10 + j)) a_3.2 (a_3.2 7 (p1).toNatClampNeg) a_5 ha_5) hx hb hml hown hts (cwV 1 hts gX4_lacksBehindWord_X0_lacks rfl rfl rfl hd_X0_lacks ⟨Nat.le_of_ble_eq_true rfl, Nat.le_of_ble_eq_true rfl⟩) (va_recv hK hP (ci := 0) (q0 := 10) rfl cX_at10) ln_X_H_t hA hK hP hD hS rfl hl.1 rfl rfl (Nat.le_of_ble_eq_true rfl) dX4_lacksBehindWord_41 (fun H locs hP hD hS => ?_)
  exact hend (a_5, a_3.2) H locs _ _ hf hP hS dX4_lacksBehindWord_44

def rm_X4_keep : Room := { frames := 5, cells := 0, slots := 0, locals := 111 }
theorem hd_X4_keep : yX4_keep.cls = RX4 ∧ yX4_keep.cls ≠ "java/lang/invoke/MethodHandle" ∧ yX4_keep.cls ≠ "java/lang/invoke/VarHandle" ∧ (parseMethodDescriptor yX4_keep.desc).map (fun d => d.parameters.length) = some 1 := by decide +kernel
set_option maxRecDepth 100000 in
set_option maxHeartbeats 4000000 in
theorem c_X4_keep (l : Launch) (D : va_G) (cI : ClassId) (A : Nat → Nat) (n : St) (t : St) (k : St) (g : St) (w : St) (z : St) (q : St) (p1 : Int32) (r : Int32 × St × St) (hf : f_X4_keep n t k g w z q p1 = some r) : Ct l yX4_keep wsX4_keep rm_X4_keep D cI (cX cI A n t k g w z q) (cX cI A n r.2.1 k g w z r.2.2) [.ref (A 0), .int p1] (some (.int r.1)) := by
  unfold f_X4_keep at hf
  refine Ct.ofI (cc := cX4_keep) (maxL := 2) (by decide +kernel) rfl (Nat.le_of_ble_eq_true rfl) ?_
  intro p e s m args below meth c AA Q H locs ls hx hb hml hown hts hA hK hP hD hS hl hend0
  have hend : ∀ (r1 : Int32 × St × St) (H : Heap) (locs : List Loc) (pc : Nat) (ls : Array Slot), some r1 = some r → va_P D vwCl (cX cI A n r1.2.1 k g w z r1.2.2) H → va_S AA s.heap H locs → decode cX4_keep pc = .ok (.ireturn, 1) → W p l e rm_X4_keep s m args below meth c H locs 0 0 Q (F0 m pc ls [.int r1.1]) := by
    intro r1 H locs pc ls e1 hP hS hd; cases e1; exact hend0 H locs pc ls hP hS hd
  clear hend0
  have hw4 : ∀ w ∈ wsX40, w ∈ wsX4_keep := by decide +kernel
  have k10 := hts (.fieldLink RX4 10 "AnchorsForConfession" "now" "LAnchorsForConfession$Harbour;") (by decide +kernel)
  replace hl : lv_has ls 2 [(0, .ref (A 0)), (1, .int p1)] := hl
  refine lv_aload_n hx hb dX4_keep_0 rfl (lv_at hl 0 rfl) ?_
  refine va_get (D := D) (ci := 4) (v := .ref (A 1)) (C := RX4) (T := TX4) (N := 8) hx hb hts hw4 hown hK hP 0 cX_at0 rfl 0 (by decide) k10 (fun _ h9 => h9) rfl dX4_keep_1 ?_
  refine lv_iload_n hx hb dX4_keep_4 rfl (lv_at hl 1 rfl) ?_
  obtain ⟨a_1, ha_1, hf⟩ := bd_e hf
  refine Ct.callV (As := [.int p1]) (rest := []) (st1 := [.int a_1]) (c_X0_hasMan l D cI (fun j => A (1 + j)) n p1 a_1 ha_1) hx hb hml hown hts (cwV 1 hts gX4_keep_X0_hasMan rfl rfl rfl hd_X0_hasMan ⟨Nat.le_of_ble_eq_true rfl, Nat.le_of_ble_eq_true rfl⟩) (va_recv hK hP (ci := 0) (q0 := 1) rfl cX_at1) ln_X_H_n hA hK hP hD hS rfl hl.1 rfl rfl (Nat.le_of_ble_eq_true rfl) dX4_keep_5 (fun H locs hP hD hS => ?_)
  refine lv_if_ne (tgt := 17) hx hb dX4_keep_8 (by decide) (fun c_2 => ?_) (fun c_2 => ?_)
  · replace hf := if_f c_2 hf
    refine lv_aload_n hx hb dX4_keep_17 rfl (lv_at hl 0 rfl) ?_
    refine va_get (D := D) (ci := 4) (v := .ref (A 1)) (C := RX4) (T := TX4) (N := 8) hx hb hts hw4 hown hK hP 0 cX_at0 rfl 0 (by decide) k10 (fun _ h9 => h9) rfl dX4_keep_18 ?_
    refine lv_iload_n hx hb dX4_keep_21 rfl (lv_at hl 1 rfl) ?_
    obtain ⟨a_3, ha_3, hf⟩ := bd_e hf
    refine Ct.callV (As := [.int p1]) (rest := []) (st1 := [.int a_3]) (c_X0_canTell l D cI (fun j => A (1 + j)) n p1 a_3 ha_3) hx hb hml hown hts (cwV 1 hts gX4_keep_X0_canTell rfl rfl rfl hd_X0_canTell ⟨Nat.le_of_ble_eq_true rfl, Nat.le_of_ble_eq_true rfl⟩) (va_recv hK hP (ci := 0) (q0 := 1) rfl cX_at1) ln_X_H_n hA hK hP hD hS rfl hl.1 rfl rfl (Nat.le_of_ble_eq_true rfl) dX4_keep_22 (fun H locs hP hD hS => ?_)
    refine lv_if_ne (tgt := 35) hx hb dX4_keep_25 (by decide) (fun c_4 => ?_) (fun c_4 => ?_)
    · replace hf := if_f c_4 hf
      refine lv_aload_n hx hb dX4_keep_35 rfl (lv_at hl 0 rfl) ?_
      refine lv_iload_n hx hb dX4_keep_36 rfl (lv_at hl 1 rfl) ?_
      refine lv_iconst (v := 0) hx hb dX4_keep_37 (by decide) ?_
      obtain ⟨a_5, ha_5, hf⟩ := bd_e hf
      refine Ct.callV (As := [.int p1, .int (0 : Int32)]) (rest := []) (st1 := [.int a_5.1]) (c_X4_lacksBehindWord l D cI A n t k g w z q p1 (0 : Int32) a_5 ha_5) hx hb hml hown hts (cwV 2 hts gX4_keep_X4_lacksBehindWord rfl rfl rfl hd_X4_lacksBehindWord ⟨Nat.le_of_ble_eq_true rfl, Nat.le_of_ble_eq_true rfl⟩) (va_recv hK hP (ci := 4) (q0 := 0) rfl cX_at0) (Ln.id rfl) hA hK hP hD hS rfl hl.1 rfl rfl (Nat.le_of_ble_eq_true rfl) dX4_keep_38 (fun H locs hP hD hS => ?_)
      replace hP : va_P D vwCl (cX cI A n a_5.2 k g w z q) H := hP
      replace hD : va_D AA (cX cI A n a_5.2 k g w z q) := hD
      refine lv_aload_n hx hb dX4_keep_41 rfl (lv_at hl 0 rfl) ?_
      refine lv_iload_n hx hb dX4_keep_42 rfl (lv_at hl 1 rfl) ?_
      refine lv_iconst (v := 1) hx hb dX4_keep_43 (by decide) ?_
      obtain ⟨a_6, ha_6, hf⟩ := bd_e hf
      refine Ct.callV (As := [.int p1, .int (1 : Int32)]) (rest := [.int a_5.1]) (st1 := [.int a_6.1, .int a_5.1]) (c_X4_lacksBehindWord l D cI A n a_5.2 k g w z q p1 (1 : Int32) a_6 ha_6) hx hb hml hown hts (cwV 2 hts gX4_keep_X4_lacksBehindWord rfl rfl rfl hd_X4_lacksBehindWord ⟨Nat.le_of_ble_eq_true rfl, Nat.le_of_ble_eq_true rfl⟩) (va_recv hK hP (ci := 4) (q0 := 0) rfl cX_at0) (Ln.id rfl) hA hK hP hD hS rfl hl.1 rfl rfl (Nat.le_of_ble_eq_true rfl) dX4_keep_44 (fun H locs hP hD hS => ?_)
      replace hP : va_P D vwCl (cX cI A n a_6.2 k g w z q) H := hP
      replace hD : va_D AA (cX cI A n a_6.2 k g w z q) := hD
      refine lv_icmp_gt (tgt := 54) hx hb dX4_keep_47 (by decide) (fun c_7 => ?_) (fun c_7 => ?_)
      · replace hf := if_t c_7 hf
        refine lv_iconst (v := 0) hx hb dX4_keep_54 (by decide) ?_
        exact hend ((0 : Int32), a_6.2, q) H locs _ _ hf hP hS dX4_keep_55
      · replace hf := if_f c_7 hf
        refine lv_iconst (v := 1) hx hb dX4_keep_50 (by decide) ?_
        refine lv_goto (tgt := 55) hx hb dX4_keep_51 (by decide) ?_
        exact hend ((1 : Int32), a_6.2, q) H locs _ _ hf hP hS dX4_keep_55
    · replace hf := if_t c_4 hf
      refine lv_aload_n hx hb dX4_keep_28 rfl (lv_at hl 0 rfl) ?_
      refine lv_bipush (v := -3) hx hb dX4_keep_29 (by decide +kernel) ?_
      obtain ⟨a_8, ha_8, hf⟩ := bd_e hf
      refine Ct.callV (As := [.int (-3 : Int32)]) (rest := []) (st1 := [.int a_8.1]) (c_X4_refused l D cI A n t k g w z q (-3 : Int32) a_8 ha_8) hx hb hml hown hts (cwV 1 hts gX4_keep_X4_refused rfl rfl rfl hd_X4_refused ⟨Nat.le_of_ble_eq_true rfl, Nat.le_of_ble_eq_true rfl⟩) (va_recv hK hP (ci := 4) (q0 := 0) rfl cX_at0) (Ln.id rfl) hA hK hP hD hS rfl hl.1 rfl rfl (Nat.le_of_ble_eq_true rfl) dX4_keep_31 (fun H locs hP hD hS => ?_)
      replace hP : va_P D vwCl (cX cI A n t k g w z a_8.2) H := hP
      replace hD : va_D AA (cX cI A n t k g w z a_8.2) := hD
      exact hend (a_8.1, t, a_8.2) H locs _ _ hf hP hS dX4_keep_34
  · replace hf := if_t c_2 hf
    refine lv_aload_n hx hb dX4_keep_11 rfl (lv_at hl 0 rfl) ?_
    refine lv_iconst (v := -1) hx hb dX4_keep_12 (by decide) ?_
    obtain ⟨a_9, ha_9, hf⟩ := bd_e hf
    refine Ct.callV (As := [.int (-1 : Int32)]) (rest := []) (st1 := [.int a_9.1]) (c_X4_refused l D cI A n t k g w z q (-1 : Int32) a_9 ha_9) hx hb hml hown hts (cwV 1 hts gX4_keep_X4_refused rfl rfl rfl hd_X4_refused ⟨Nat.le_of_ble_eq_true rfl, Nat.le_of_ble_eq_true rfl⟩) (va_recv hK hP (ci := 4) (q0 := 0) rfl cX_at0) (Ln.id rfl) hA hK hP hD hS rfl hl.1 rfl rfl (Nat.le_of_ble_eq_true rfl) dX4_keep_13 (fun H locs hP hD hS => ?_)
    replace hP : va_P D vwCl (cX cI A n t k g w z a_9.2) H := hP
    replace hD : va_D AA (cX cI A n t k g w z a_9.2) := hD
    exact hend (a_9.1, t, a_9.2) H locs _ _ hf hP hS dX4_keep_16

def rm_X4_richest : Room := { frames := 2, cells := 0, slots := 0, locals := 44 }
theorem hd_X4_richest : yX4_richest.cls = RX4 ∧ yX4_richest.cls ≠ "java/lang/invoke/MethodHandle" ∧ yX4_richest.cls ≠ "java/lang/invoke/VarHandle" ∧ (parseMethodDescriptor yX4_richest.desc).map (fun d => d.parameters.length) = some 1 := by decide +kernel
set_option maxRecDepth 100000 in
set_option maxHeartbeats 4000000 in
theorem c_X4_richest (l : Launch) (D : va_G) (cI : ClassId) (A : Nat → Nat) (n : St) (t : St) (k : St) (g : St) (w : St) (z : St) (q : St) (p1 : Int32) (r : Int32 × St) (hf : f_X4_richest n t k g w z q p1 = some r) : Ct l yX4_richest wsX4_richest rm_X4_richest D cI (cX cI A n t k g w z q) (cX cI A n t k g w z r.2) [.ref (A 0), .int p1] (some (.int r.1)) := by
  unfold f_X4_richest at hf
  refine Ct.ofI (cc := cX4_richest) (maxL := 6) (by decide +kernel) rfl (Nat.le_of_ble_eq_true rfl) ?_
  intro p e s m args below meth c AA Q H locs ls hx hb hml hown hts hA hK hP hD hS hl hend0
  have hend : ∀ (r1 : Int32 × St) (H : Heap) (locs : List Loc) (pc : Nat) (ls : Array Slot), some r1 = some r → va_P D vwCl (cX cI A n t k g w z r1.2) H → va_S AA s.heap H locs → decode cX4_richest pc = .ok (.ireturn, 1) → W p l e rm_X4_richest s m args below meth c H locs 0 0 Q (F0 m pc ls [.int r1.1]) := by
    intro r1 H locs pc ls e1 hP hS hd; cases e1; exact hend0 H locs pc ls hP hS hd
  clear hend0
  have hw0 : ∀ w ∈ wsX00, w ∈ wsX4_richest := by decide +kernel
  have hw4 : ∀ w ∈ wsX40, w ∈ wsX4_richest := by decide +kernel
  have k10 := hts (.fieldLink RX4 10 "AnchorsForConfession" "now" "LAnchorsForConfession$Harbour;") (by decide +kernel)
  have k89 := hts (.fieldLink RX4 89 "AnchorsForConfession$Harbour" "sinsOf" "[I") (by decide +kernel)
  have k155 := hts (.fieldLink RX4 155 "AnchorsForConfession$Harbour" "men" "I") (by decide +kernel)
  replace hl : lv_has ls 6 [(0, .ref (A 0)), (1, .int p1)] := hl
  refine lv_iload_n hx hb dX4_richest_0 rfl (lv_at hl 1 rfl) ?_
  refine lv_if_eq (tgt := 16) hx hb dX4_richest_1 (by decide) (fun c_1 => ?_) (fun c_1 => ?_)
  · replace hf := if_t c_1 hf
    refine lv_bipush (v := -9) hx hb dX4_richest_16 (by decide +kernel) ?_
    refine lv_istore_n (lv' := [(2, .int (-9 : Int32)), (0, .ref (A 0)), (1, .int p1)]) hx hb dX4_richest_18 rfl hl (by decide) rfl (fun ls hl => ?_)
    refine lv_iconst (v := -1) hx hb dX4_richest_19 (by decide) ?_
    refine lv_istore_n (lv' := [(3, .int (-1 : Int32)), (2, .int (-9 : Int32)), (0, .ref (A 0)), (1, .int p1)]) hx hb dX4_richest_20 rfl hl (by decide) rfl (fun ls hl => ?_)
    refine lv_iconst (v := 0) hx hb dX4_richest_21 (by decide) ?_
    refine lv_istore (lv' := [(4, .int (0 : Int32)), (3, .int (-1 : Int32)), (2, .int (-9 : Int32)), (0, .ref (A 0)), (1, .int p1)]) hx hb dX4_richest_22 hl (by decide) rfl (fun ls hl => ?_)
    refine lp_ind (P := fun (q24 : Int32 × Int32 × Int32) => ∀ (H : Heap) (locs : List Loc) (ls : Array Slot), va_P D vwCl (cX cI A n t k g w z q) H → va_D AA (cX cI A n t k g w z q) → va_S AA s.heap H locs → lv_has ls 6 [(0, .ref (A 0)), (1, .int p1), (2, .int q24.1), (3, .int q24.2.1), (4, .int q24.2.2)] → W p l e rm_X4_richest s m args below meth c H locs 0 0 Q (F0 m 24 ls [])) hf ?_ H locs ls hP hD hS (lv_sub hl [3, 4, 2, 1, 0] rfl)
    clear hf hP hD hS hl
    intro nx24 ih24 q24 hf H locs ls hP hD hS hl
    refine lv_iload hx hb dX4_richest_24 (lv_at hl 4 rfl) ?_
    refine lv_aload_n hx hb dX4_richest_26 rfl (lv_at hl 0 rfl) ?_
    refine va_get (D := D) (ci := 4) (v := .ref (A 1)) (C := RX4) (T := TX4) (N := 8) hx hb hts hw4 hown hK hP 0 cX_at0 rfl 0 (by decide) k10 (fun _ h9 => h9) rfl dX4_richest_27 ?_
    refine va_get (D := D) (ci := 0) (v := .int (n 16 1)) (C := RX0) (T := TX0) (N := 12) hx hb hts hw0 hown hK hP 1 cX_at1 rfl 4 (by decide) k155 (fun _ h9 => h9) rfl dX4_richest_30 ?_
    refine lv_icmp_ge (tgt := 82) hx hb dX4_richest_33 (by decide) (fun c_2 => ?_) (fun c_2 => ?_)
    · replace hf := if_t c_2 hf
      refine lv_iload_n hx hb dX4_richest_82 rfl (lv_at hl 2 rfl) ?_
      exact hend (q24.1, q) H locs _ _ hf hP hS dX4_richest_83
    · replace hf := if_f c_2 hf
      refine lv_iload_n hx hb dX4_richest_36 rfl (lv_at hl 1 rfl) ?_
      refine lv_if_ne (tgt := 53) hx hb dX4_richest_37 (by decide) (fun c_3 => ?_) (fun c_3 => ?_)
      · replace hf := if_f c_3 hf
        refine lv_aload_n hx hb dX4_richest_53 rfl (lv_at hl 0 rfl) ?_
        refine va_get (D := D) (ci := 4) (v := .ref (A 1)) (C := RX4) (T := TX4) (N := 8) hx hb hts hw4 hown hK hP 0 cX_at0 rfl 0 (by decide) k10 (fun _ h9 => h9) rfl dX4_richest_54 ?_
        refine lv_iload hx hb dX4_richest_57 (lv_at hl 4 rfl) ?_
        obtain ⟨a_4, ha_4, hf⟩ := bd_e hf
        refine Ct.callV (As := [.int q24.2.2]) (rest := []) (st1 := [.int a_4]) (c_X0_worth l D cI (fun j => A (1 + j)) n q24.2.2 a_4 ha_4) hx hb hml hown hts (cwV 1 hts gX4_richest_X0_worth rfl rfl rfl hd_X0_worth ⟨Nat.le_of_ble_eq_true rfl, Nat.le_of_ble_eq_true rfl⟩) (va_recv hK hP (ci := 0) (q0 := 1) rfl cX_at1) ln_X_H_n hA hK hP hD hS rfl hl.1 rfl rfl (Nat.le_of_ble_eq_true rfl) dX4_richest_59 (fun H locs hP hD hS => ?_)
        refine lv_istore (lv' := [(5, .int a_4), (0, .ref (A 0)), (1, .int p1), (2, .int q24.1), (3, .int q24.2.1), (4, .int q24.2.2)]) hx hb dX4_richest_62 hl (by decide) rfl (fun ls hl => ?_)
        refine lv_iload hx hb dX4_richest_64 (lv_at hl 0 rfl) ?_
        refine lv_iload_n hx hb dX4_richest_66 rfl (lv_at hl 4 rfl) ?_
        refine lv_icmp_le (tgt := 76) hx hb dX4_richest_67 (by decide) (fun c_5 => ?_) (fun c_5 => ?_)
        · replace hf := if_t c_5 hf
          obtain ⟨v_6, ev_6, hf⟩ := nq_e hf
          refine lv_iinc (v := v_6) (lv' := [(4, .int v_6), (5, .int a_4), (0, .ref (A 0)), (1, .int p1), (2, .int q24.1), (3, .int q24.2.1)]) hx hb dX4_richest_76 hl (k := 5) rfl (by rw [ev_6]; rfl) (by decide) rfl (fun ls hl => ?_)
          refine lv_goto (tgt := 24) hx hb dX4_richest_79 (by decide) ?_
          exact ih24 (q24.1, q24.2.1, v_6) hf H locs ls hP hD hS (lv_sub hl [2, 3, 4, 5, 0] rfl)
        · replace hf := if_f c_5 hf
          refine lv_iload hx hb dX4_richest_70 (lv_at hl 0 rfl) ?_
          refine lv_istore_n (lv' := [(3, .int a_4), (5, .int a_4), (0, .ref (A 0)), (1, .int p1), (2, .int q24.1), (4, .int q24.2.2)]) hx hb dX4_richest_72 rfl hl (by decide) rfl (fun ls hl => ?_)
          refine lv_iload hx hb dX4_richest_73 (lv_at hl 5 rfl) ?_
          refine lv_istore_n (lv' := [(2, .int q24.2.2), (3, .int a_4), (5, .int a_4), (0, .ref (A 0)), (1, .int p1), (4, .int q24.2.2)]) hx hb dX4_richest_75 rfl hl (by decide) rfl (fun ls hl => ?_)
          obtain ⟨v_7, ev_7, hf⟩ := nq_e hf
          refine lv_iinc (v := v_7) (lv' := [(4, .int v_7), (2, .int q24.2.2), (3, .int a_4), (5, .int a_4), (0, .ref (A 0)), (1, .int p1)]) hx hb dX4_richest_76 hl (k := 5) rfl (by rw [ev_7]; rfl) (by decide) rfl (fun ls hl => ?_)
          refine lv_goto (tgt := 24) hx hb dX4_richest_79 (by decide) ?_
          exact ih24 (q24.2.2, a_4, v_7) hf H locs ls hP hD hS (lv_sub hl [4, 5, 1, 2, 0] rfl)
      · replace hf := if_t c_3 hf
        refine lv_aload_n hx hb dX4_richest_40 rfl (lv_at hl 0 rfl) ?_
        refine va_get (D := D) (ci := 4) (v := .ref (A 1)) (C := RX4) (T := TX4) (N := 8) hx hb hts hw4 hown hK hP 0 cX_at0 rfl 0 (by decide) k10 (fun _ h9 => h9) rfl dX4_richest_41 ?_
        refine va_get (D := D) (ci := 0) (v := .ref (A 7)) (C := RX0) (T := TX0) (N := 12) hx hb hts hw0 hown hK hP 1 cX_at1 rfl 7 (by decide) k89 (fun _ h9 => h9) rfl dX4_richest_44 ?_
        refine lv_iload hx hb dX4_richest_47 (lv_at hl 4 rfl) ?_
        obtain ⟨c_8, hf⟩ := gi_e hf
        refine va_iald hx hb hK hP 7 0 cX_at7 rfl c_8 dX4_richest_49 ?_
        refine lv_goto (tgt := 62) hx hb dX4_richest_50 (by decide) ?_
        refine lv_topi (fun v_9 ev_9 => ?_)
        replace hf := nm_at ev_9 hf
        refine lv_istore (lv' := [(5, .int v_9), (0, .ref (A 0)), (1, .int p1), (2, .int q24.1), (3, .int q24.2.1), (4, .int q24.2.2)]) hx hb dX4_richest_62 hl (by decide) rfl (fun ls hl => ?_)
        refine lv_iload hx hb dX4_richest_64 (lv_at hl 0 rfl) ?_
        refine lv_iload_n hx hb dX4_richest_66 rfl (lv_at hl 4 rfl) ?_
        refine lv_icmp_le (tgt := 76) hx hb dX4_richest_67 (by decide) (fun c_10 => ?_) (fun c_10 => ?_)
        · replace hf := if_t c_10 hf
          obtain ⟨v_11, ev_11, hf⟩ := nq_e hf
          refine lv_iinc (v := v_11) (lv' := [(4, .int v_11), (5, .int v_9), (0, .ref (A 0)), (1, .int p1), (2, .int q24.1), (3, .int q24.2.1)]) hx hb dX4_richest_76 hl (k := 5) rfl (by rw [ev_11]; rfl) (by decide) rfl (fun ls hl => ?_)
          refine lv_goto (tgt := 24) hx hb dX4_richest_79 (by decide) ?_
          exact ih24 (q24.1, q24.2.1, v_11) hf H locs ls hP hD hS (lv_sub hl [2, 3, 4, 5, 0] rfl)
        · replace hf := if_f c_10 hf
          refine lv_iload hx hb dX4_richest_70 (lv_at hl 0 rfl) ?_
          refine lv_istore_n (lv' := [(3, .int v_9), (5, .int v_9), (0, .ref (A 0)), (1, .int p1), (2, .int q24.1), (4, .int q24.2.2)]) hx hb dX4_richest_72 rfl hl (by decide) rfl (fun ls hl => ?_)
          refine lv_iload hx hb dX4_richest_73 (lv_at hl 5 rfl) ?_
          refine lv_istore_n (lv' := [(2, .int q24.2.2), (3, .int v_9), (5, .int v_9), (0, .ref (A 0)), (1, .int p1), (4, .int q24.2.2)]) hx hb dX4_richest_75 rfl hl (by decide) rfl (fun ls hl => ?_)
          obtain ⟨v_12, ev_12, hf⟩ := nq_e hf
          refine lv_iinc (v := v_12) (lv' := [(4, .int v_12), (2, .int q24.2.2), (3, .int v_9), (5, .int v_9), (0, .ref (A 0)), (1, .int p1)]) hx hb dX4_richest_76 hl (k := 5) rfl (by rw [ev_12]; rfl) (by decide) rfl (fun ls hl => ?_)
          refine lv_goto (tgt := 24) hx hb dX4_richest_79 (by decide) ?_
          exact ih24 (q24.2.2, v_9, v_12) hf H locs ls hP hD hS (lv_sub hl [4, 5, 1, 2, 0] rfl)
  · replace hf := if_f c_1 hf
    refine lv_iload_n hx hb dX4_richest_4 rfl (lv_at hl 1 rfl) ?_
    refine lv_iconst (v := 1) hx hb dX4_richest_5 (by decide) ?_
    refine lv_icmp_eq (tgt := 16) hx hb dX4_richest_6 (by decide) (fun c_13 => ?_) (fun c_13 => ?_)
    · replace hf := if_t c_13 hf
      refine lv_bipush (v := -9) hx hb dX4_richest_16 (by decide +kernel) ?_
      refine lv_istore_n (lv' := [(2, .int (-9 : Int32)), (0, .ref (A 0)), (1, .int p1)]) hx hb dX4_richest_18 rfl hl (by decide) rfl (fun ls hl => ?_)
      refine lv_iconst (v := -1) hx hb dX4_richest_19 (by decide) ?_
      refine lv_istore_n (lv' := [(3, .int (-1 : Int32)), (2, .int (-9 : Int32)), (0, .ref (A 0)), (1, .int p1)]) hx hb dX4_richest_20 rfl hl (by decide) rfl (fun ls hl => ?_)
      refine lv_iconst (v := 0) hx hb dX4_richest_21 (by decide) ?_
      refine lv_istore (lv' := [(4, .int (0 : Int32)), (3, .int (-1 : Int32)), (2, .int (-9 : Int32)), (0, .ref (A 0)), (1, .int p1)]) hx hb dX4_richest_22 hl (by decide) rfl (fun ls hl => ?_)
      refine lp_ind (P := fun (q24 : Int32 × Int32 × Int32) => ∀ (H : Heap) (locs : List Loc) (ls : Array Slot), va_P D vwCl (cX cI A n t k g w z q) H → va_D AA (cX cI A n t k g w z q) → va_S AA s.heap H locs → lv_has ls 6 [(0, .ref (A 0)), (1, .int p1), (2, .int q24.1), (3, .int q24.2.1), (4, .int q24.2.2)] → W p l e rm_X4_richest s m args below meth c H locs 0 0 Q (F0 m 24 ls [])) hf ?_ H locs ls hP hD hS (lv_sub hl [3, 4, 2, 1, 0] rfl)
      clear hf hP hD hS hl
      intro nx24 ih24 q24 hf H locs ls hP hD hS hl
      refine lv_iload hx hb dX4_richest_24 (lv_at hl 4 rfl) ?_
      refine lv_aload_n hx hb dX4_richest_26 rfl (lv_at hl 0 rfl) ?_
      refine va_get (D := D) (ci := 4) (v := .ref (A 1)) (C := RX4) (T := TX4) (N := 8) hx hb hts hw4 hown hK hP 0 cX_at0 rfl 0 (by decide) k10 (fun _ h9 => h9) rfl dX4_richest_27 ?_
      refine va_get (D := D) (ci := 0) (v := .int (n 16 1)) (C := RX0) (T := TX0) (N := 12) hx hb hts hw0 hown hK hP 1 cX_at1 rfl 4 (by decide) k155 (fun _ h9 => h9) rfl dX4_richest_30 ?_
      refine lv_icmp_ge (tgt := 82) hx hb dX4_richest_33 (by decide) (fun c_14 => ?_) (fun c_14 => ?_)
      · replace hf := if_t c_14 hf
        refine lv_iload_n hx hb dX4_richest_82 rfl (lv_at hl 2 rfl) ?_
        exact hend (q24.1, q) H locs _ _ hf hP hS dX4_richest_83
      · replace hf := if_f c_14 hf
        refine lv_iload_n hx hb dX4_richest_36 rfl (lv_at hl 1 rfl) ?_
        refine lv_if_ne (tgt := 53) hx hb dX4_richest_37 (by decide) (fun c_15 => ?_) (fun c_15 => ?_)
        · replace hf := if_f c_15 hf
          refine lv_aload_n hx hb dX4_richest_53 rfl (lv_at hl 0 rfl) ?_
          refine va_get (D := D) (ci := 4) (v := .ref (A 1)) (C := RX4) (T := TX4) (N := 8) hx hb hts hw4 hown hK hP 0 cX_at0 rfl 0 (by decide) k10 (fun _ h9 => h9) rfl dX4_richest_54 ?_
          refine lv_iload hx hb dX4_richest_57 (lv_at hl 4 rfl) ?_
          obtain ⟨a_16, ha_16, hf⟩ := bd_e hf
          refine Ct.callV (As := [.int q24.2.2]) (rest := []) (st1 := [.int a_16]) (c_X0_worth l D cI (fun j => A (1 + j)) n q24.2.2 a_16 ha_16) hx hb hml hown hts (cwV 1 hts gX4_richest_X0_worth rfl rfl rfl hd_X0_worth ⟨Nat.le_of_ble_eq_true rfl, Nat.le_of_ble_eq_true rfl⟩) (va_recv hK hP (ci := 0) (q0 := 1) rfl cX_at1) ln_X_H_n hA hK hP hD hS rfl hl.1 rfl rfl (Nat.le_of_ble_eq_true rfl) dX4_richest_59 (fun H locs hP hD hS => ?_)
          refine lv_istore (lv' := [(5, .int a_16), (0, .ref (A 0)), (1, .int p1), (2, .int q24.1), (3, .int q24.2.1), (4, .int q24.2.2)]) hx hb dX4_richest_62 hl (by decide) rfl (fun ls hl => ?_)
          refine lv_iload hx hb dX4_richest_64 (lv_at hl 0 rfl) ?_
          refine lv_iload_n hx hb dX4_richest_66 rfl (lv_at hl 4 rfl) ?_
          refine lv_icmp_le (tgt := 76) hx hb dX4_richest_67 (by decide) (fun c_17 => ?_) (fun c_17 => ?_)
          · replace hf := if_t c_17 hf
            obtain ⟨v_18, ev_18, hf⟩ := nq_e hf
            refine lv_iinc (v := v_18) (lv' := [(4, .int v_18), (5, .int a_16), (0, .ref (A 0)), (1, .int p1), (2, .int q24.1), (3, .int q24.2.1)]) hx hb dX4_richest_76 hl (k := 5) rfl (by rw [ev_18]; rfl) (by decide) rfl (fun ls hl => ?_)
            refine lv_goto (tgt := 24) hx hb dX4_richest_79 (by decide) ?_
            exact ih24 (q24.1, q24.2.1, v_18) hf H locs ls hP hD hS (lv_sub hl [2, 3, 4, 5, 0] rfl)
          · replace hf := if_f c_17 hf
            refine lv_iload hx hb dX4_richest_70 (lv_at hl 0 rfl) ?_
            refine lv_istore_n (lv' := [(3, .int a_16), (5, .int a_16), (0, .ref (A 0)), (1, .int p1), (2, .int q24.1), (4, .int q24.2.2)]) hx hb dX4_richest_72 rfl hl (by decide) rfl (fun ls hl => ?_)
            refine lv_iload hx hb dX4_richest_73 (lv_at hl 5 rfl) ?_
            refine lv_istore_n (lv' := [(2, .int q24.2.2), (3, .int a_16), (5, .int a_16), (0, .ref (A 0)), (1, .int p1), (4, .int q24.2.2)]) hx hb dX4_richest_75 rfl hl (by decide) rfl (fun ls hl => ?_)
            obtain ⟨v_19, ev_19, hf⟩ := nq_e hf
            refine lv_iinc (v := v_19) (lv' := [(4, .int v_19), (2, .int q24.2.2), (3, .int a_16), (5, .int a_16), (0, .ref (A 0)), (1, .int p1)]) hx hb dX4_richest_76 hl (k := 5) rfl (by rw [ev_19]; rfl) (by decide) rfl (fun ls hl => ?_)
            refine lv_goto (tgt := 24) hx hb dX4_richest_79 (by decide) ?_
            exact ih24 (q24.2.2, a_16, v_19) hf H locs ls hP hD hS (lv_sub hl [4, 5, 1, 2, 0] rfl)
        · replace hf := if_t c_15 hf
          refine lv_aload_n hx hb dX4_richest_40 rfl (lv_at hl 0 rfl) ?_
          refine va_get (D := D) (ci := 4) (v := .ref (A 1)) (C := RX4) (T := TX4) (N := 8) hx hb hts hw4 hown hK hP 0 cX_at0 rfl 0 (by decide) k10 (fun _ h9 => h9) rfl dX4_richest_41 ?_
          refine va_get (D := D) (ci := 0) (v := .ref (A 7)) (C := RX0) (T := TX0) (N := 12) hx hb hts hw0 hown hK hP 1 cX_at1 rfl 7 (by decide) k89 (fun _ h9 => h9) rfl dX4_richest_44 ?_
          refine lv_iload hx hb dX4_richest_47 (lv_at hl 4 rfl) ?_
          obtain ⟨c_20, hf⟩ := gi_e hf
          refine va_iald hx hb hK hP 7 0 cX_at7 rfl c_20 dX4_richest_49 ?_
          refine lv_goto (tgt := 62) hx hb dX4_richest_50 (by decide) ?_
          refine lv_topi (fun v_21 ev_21 => ?_)
          replace hf := nm_at ev_21 hf
          refine lv_istore (lv' := [(5, .int v_21), (0, .ref (A 0)), (1, .int p1), (2, .int q24.1), (3, .int q24.2.1), (4, .int q24.2.2)]) hx hb dX4_richest_62 hl (by decide) rfl (fun ls hl => ?_)
          refine lv_iload hx hb dX4_richest_64 (lv_at hl 0 rfl) ?_
          refine lv_iload_n hx hb dX4_richest_66 rfl (lv_at hl 4 rfl) ?_
          refine lv_icmp_le (tgt := 76) hx hb dX4_richest_67 (by decide) (fun c_22 => ?_) (fun c_22 => ?_)
          · replace hf := if_t c_22 hf
            obtain ⟨v_23, ev_23, hf⟩ := nq_e hf
            refine lv_iinc (v := v_23) (lv' := [(4, .int v_23), (5, .int v_21), (0, .ref (A 0)), (1, .int p1), (2, .int q24.1), (3, .int q24.2.1)]) hx hb dX4_richest_76 hl (k := 5) rfl (by rw [ev_23]; rfl) (by decide) rfl (fun ls hl => ?_)
            refine lv_goto (tgt := 24) hx hb dX4_richest_79 (by decide) ?_
            exact ih24 (q24.1, q24.2.1, v_23) hf H locs ls hP hD hS (lv_sub hl [2, 3, 4, 5, 0] rfl)
          · replace hf := if_f c_22 hf
            refine lv_iload hx hb dX4_richest_70 (lv_at hl 0 rfl) ?_
            refine lv_istore_n (lv' := [(3, .int v_21), (5, .int v_21), (0, .ref (A 0)), (1, .int p1), (2, .int q24.1), (4, .int q24.2.2)]) hx hb dX4_richest_72 rfl hl (by decide) rfl (fun ls hl => ?_)
            refine lv_iload hx hb dX4_richest_73 (lv_at hl 5 rfl) ?_
            refine lv_istore_n (lv' := [(2, .int q24.2.2), (3, .int v_21), (5, .int v_21), (0, .ref (A 0)), (1, .int p1), (4, .int q24.2.2)]) hx hb dX4_richest_75 rfl hl (by decide) rfl (fun ls hl => ?_)
            obtain ⟨v_24, ev_24, hf⟩ := nq_e hf
            refine lv_iinc (v := v_24) (lv' := [(4, .int v_24), (2, .int q24.2.2), (3, .int v_21), (5, .int v_21), (0, .ref (A 0)), (1, .int p1)]) hx hb dX4_richest_76 hl (k := 5) rfl (by rw [ev_24]; rfl) (by decide) rfl (fun ls hl => ?_)
            refine lv_goto (tgt := 24) hx hb dX4_richest_79 (by decide) ?_
            exact ih24 (q24.2.2, v_21, v_24) hf H locs ls hP hD hS (lv_sub hl [4, 5, 1, 2, 0] rfl)
    · replace hf := if_f c_13 hf
      refine lv_aload_n hx hb dX4_richest_9 rfl (lv_at hl 0 rfl) ?_
      refine lv_bipush (v := -2) hx hb dX4_richest_10 (by decide +kernel) ?_
      obtain ⟨a_25, ha_25, hf⟩ := bd_e hf
      refine Ct.callV (As := [.int (-2 : Int32)]) (rest := []) (st1 := [.int a_25.1]) (c_X4_refused l D cI A n t k g w z q (-2 : Int32) a_25 ha_25) hx hb hml hown hts (cwV 1 hts gX4_richest_X4_refused rfl rfl rfl hd_X4_refused ⟨Nat.le_of_ble_eq_true rfl, Nat.le_of_ble_eq_true rfl⟩) (va_recv hK hP (ci := 4) (q0 := 0) rfl cX_at0) (Ln.id rfl) hA hK hP hD hS rfl hl.1 rfl rfl (Nat.le_of_ble_eq_true rfl) dX4_richest_12 (fun H locs hP hD hS => ?_)
      replace hP : va_P D vwCl (cX cI A n t k g w z a_25.2) H := hP
      replace hD : va_D AA (cX cI A n t k g w z a_25.2) := hD
      exact hend (a_25.1, a_25.2) H locs _ _ hf hP hS dX4_richest_15

def rm_X4_blameless : Room := { frames := 1, cells := 0, slots := 0, locals := 23 }
theorem hd_X4_blameless : yX4_blameless.cls = RX4 ∧ yX4_blameless.cls ≠ "java/lang/invoke/MethodHandle" ∧ yX4_blameless.cls ≠ "java/lang/invoke/VarHandle" ∧ (parseMethodDescriptor yX4_blameless.desc).map (fun d => d.parameters.length) = some 0 := by decide +kernel
set_option maxRecDepth 100000 in
set_option maxHeartbeats 4000000 in
theorem c_X4_blameless (l : Launch) (D : va_G) (cI : ClassId) (A : Nat → Nat) (n : St) (t : St) (k : St) (g : St) (w : St) (z : St) (q : St) (r : Int32) (hf : f_X4_blameless n t k g w z q = some r) : Ct l yX4_blameless wsX4_blameless rm_X4_blameless D cI (cX cI A n t k g w z q) (cX cI A n t k g w z q) [.ref (A 0)] (some (.int r)) := by
  unfold f_X4_blameless at hf
  refine Ct.ofI (cc := cX4_blameless) (maxL := 3) (by decide +kernel) rfl (Nat.le_of_ble_eq_true rfl) ?_
  intro p e s m args below meth c AA Q H locs ls hx hb hml hown hts hA hK hP hD hS hl hend0
  have hend : ∀ (r1 : Int32) (H : Heap) (locs : List Loc) (pc : Nat) (ls : Array Slot), some r1 = some r → va_P D vwCl (cX cI A n t k g w z q) H → va_S AA s.heap H locs → decode cX4_blameless pc = .ok (.ireturn, 1) → W p l e rm_X4_blameless s m args below meth c H locs 0 0 Q (F0 m pc ls [.int r1]) := by
    intro r1 H locs pc ls e1 hP hS hd; cases e1; exact hend0 H locs pc ls hP hS hd
  clear hend0
  have hw0 : ∀ w ∈ wsX00, w ∈ wsX4_blameless := by decide +kernel
  have hw4 : ∀ w ∈ wsX40, w ∈ wsX4_blameless := by decide +kernel
  have k10 := hts (.fieldLink RX4 10 "AnchorsForConfession" "now" "LAnchorsForConfession$Harbour;") (by decide +kernel)
  have k136 := hts (.fieldLink RX4 136 "AnchorsForConfession$Harbour" "ships" "I") (by decide +kernel)
  replace hl : lv_has ls 3 [(0, .ref (A 0))] := hl
  refine lv_iconst (v := 0) hx hb dX4_blameless_0 (by decide) ?_
  refine lv_istore_n (lv' := [(1, .int (0 : Int32)), (0, .ref (A 0))]) hx hb dX4_blameless_1 rfl hl (by decide) rfl (fun ls hl => ?_)
  refine lv_iconst (v := 0) hx hb dX4_blameless_2 (by decide) ?_
  refine lv_istore_n (lv' := [(2, .int (0 : Int32)), (1, .int (0 : Int32)), (0, .ref (A 0))]) hx hb dX4_blameless_3 rfl hl (by decide) rfl (fun ls hl => ?_)
  refine lp_ind (P := fun (q4 : Int32 × Int32) => ∀ (H : Heap) (locs : List Loc) (ls : Array Slot), va_P D vwCl (cX cI A n t k g w z q) H → va_D AA (cX cI A n t k g w z q) → va_S AA s.heap H locs → lv_has ls 3 [(0, .ref (A 0)), (1, .int q4.1), (2, .int q4.2)] → W p l e rm_X4_blameless s m args below meth c H locs 0 0 Q (F0 m 4 ls [])) hf ?_ H locs ls hP hD hS (lv_sub hl [2, 1, 0] rfl)
  clear hf hP hD hS hl
  intro nx4 ih4 q4 hf H locs ls hP hD hS hl
  refine lv_iload_n hx hb dX4_blameless_4 rfl (lv_at hl 2 rfl) ?_
  refine lv_aload_n hx hb dX4_blameless_5 rfl (lv_at hl 0 rfl) ?_
  refine va_get (D := D) (ci := 4) (v := .ref (A 1)) (C := RX4) (T := TX4) (N := 8) hx hb hts hw4 hown hK hP 0 cX_at0 rfl 0 (by decide) k10 (fun _ h9 => h9) rfl dX4_blameless_6 ?_
  refine va_get (D := D) (ci := 0) (v := .int (n 16 0)) (C := RX0) (T := TX0) (N := 12) hx hb hts hw0 hown hK hP 1 cX_at1 rfl 0 (by decide) k136 (fun _ h9 => h9) rfl dX4_blameless_9 ?_
  refine lv_icmp_ge (tgt := 38) hx hb dX4_blameless_12 (by decide) (fun c_1 => ?_) (fun c_1 => ?_)
  · replace hf := if_t c_1 hf
    refine lv_iload_n hx hb dX4_blameless_38 rfl (lv_at hl 1 rfl) ?_
    exact hend q4.1 H locs _ _ hf hP hS dX4_blameless_39
  · replace hf := if_f c_1 hf
    refine lv_aload_n hx hb dX4_blameless_15 rfl (lv_at hl 0 rfl) ?_
    refine va_get (D := D) (ci := 4) (v := .ref (A 1)) (C := RX4) (T := TX4) (N := 8) hx hb hts hw4 hown hK hP 0 cX_at0 rfl 0 (by decide) k10 (fun _ h9 => h9) rfl dX4_blameless_16 ?_
    refine lv_iload_n hx hb dX4_blameless_19 rfl (lv_at hl 2 rfl) ?_
    obtain ⟨a_2, ha_2, hf⟩ := bd_e hf
    refine Ct.callV (As := [.int q4.2]) (rest := []) (st1 := [.int a_2]) (c_X0_sinsAboard l D cI (fun j => A (1 + j)) n q4.2 a_2 ha_2) hx hb hml hown hts (cwV 1 hts gX4_blameless_X0_sinsAboard rfl rfl rfl hd_X0_sinsAboard ⟨Nat.le_of_ble_eq_true rfl, Nat.le_of_ble_eq_true rfl⟩) (va_recv hK hP (ci := 0) (q0 := 1) rfl cX_at1) ln_X_H_n hA hK hP hD hS rfl hl.1 rfl rfl (Nat.le_of_ble_eq_true rfl) dX4_blameless_20 (fun H locs hP hD hS => ?_)
    refine lv_if_ne (tgt := 32) hx hb dX4_blameless_23 (by decide) (fun c_3 => ?_) (fun c_3 => ?_)
    · replace hf := if_f c_3 hf
      obtain ⟨v_4, ev_4, hf⟩ := nq_e hf
      refine lv_iinc (v := v_4) (lv' := [(2, .int v_4), (0, .ref (A 0)), (1, .int q4.1)]) hx hb dX4_blameless_32 hl (k := 2) rfl (by rw [ev_4]; rfl) (by decide) rfl (fun ls hl => ?_)
      refine lv_goto (tgt := 4) hx hb dX4_blameless_35 (by decide) ?_
      exact ih4 (q4.1, v_4) hf H locs ls hP hD hS (lv_sub hl [1, 2, 0] rfl)
    · replace hf := if_t c_3 hf
      refine lv_iload_n hx hb dX4_blameless_26 rfl (lv_at hl 1 rfl) ?_
      refine lv_iconst (v := 1) hx hb dX4_blameless_27 (by decide) ?_
      refine lv_iload_n hx hb dX4_blameless_28 rfl (lv_at hl 2 rfl) ?_
      refine lv_ishl hx hb dX4_blameless_29 ?_
      refine lv_ior hx hb dX4_blameless_30 ?_
      refine lv_topi (fun v_5 ev_5 => ?_)
      replace hf := nm_at ev_5 hf
      refine lv_istore_n (lv' := [(1, .int v_5), (0, .ref (A 0)), (2, .int q4.2)]) hx hb dX4_blameless_31 rfl hl (by decide) rfl (fun ls hl => ?_)
      obtain ⟨v_6, ev_6, hf⟩ := nq_e hf
      refine lv_iinc (v := v_6) (lv' := [(2, .int v_6), (1, .int v_5), (0, .ref (A 0))]) hx hb dX4_blameless_32 hl (k := 2) rfl (by rw [ev_6]; rfl) (by decide) rfl (fun ls hl => ?_)
      refine lv_goto (tgt := 4) hx hb dX4_blameless_35 (by decide) ?_
      exact ih4 (v_5, v_6) hf H locs ls hP hD hS (lv_sub hl [2, 1, 0] rfl)

def rm_X4_ebb : Room := { frames := 3, cells := 0, slots := 0, locals := 67 }
theorem hd_X4_ebb : yX4_ebb.cls = RX4 ∧ yX4_ebb.cls ≠ "java/lang/invoke/MethodHandle" ∧ yX4_ebb.cls ≠ "java/lang/invoke/VarHandle" ∧ (parseMethodDescriptor yX4_ebb.desc).map (fun d => d.parameters.length) = some 1 := by decide +kernel
set_option maxRecDepth 100000 in
set_option maxHeartbeats 4000000 in
theorem c_X4_ebb (l : Launch) (D : va_G) (cI : ClassId) (A : Nat → Nat) (n : St) (t : St) (k : St) (g : St) (w : St) (z : St) (q : St) (p1 : Int32) (r : Int32 × St × St) (hf : f_X4_ebb n t k g w z q p1 = some r) : Ct l yX4_ebb wsX4_ebb rm_X4_ebb D cI (cX cI A n t k g w z q) (cX cI A n r.2.1 k g w z r.2.2) [.ref (A 0), .int p1] (some (.int r.1)) := by
  unfold f_X4_ebb at hf
  refine Ct.ofI (cc := cX4_ebb) (maxL := 2) (by decide +kernel) rfl (Nat.le_of_ble_eq_true rfl) ?_
  intro p e s m args below meth c AA Q H locs ls hx hb hml hown hts hA hK hP hD hS hl hend0
  have hend : ∀ (r1 : Int32 × St × St) (H : Heap) (locs : List Loc) (pc : Nat) (ls : Array Slot), some r1 = some r → va_P D vwCl (cX cI A n r1.2.1 k g w z r1.2.2) H → va_S AA s.heap H locs → decode cX4_ebb pc = .ok (.ireturn, 1) → W p l e rm_X4_ebb s m args below meth c H locs 0 0 Q (F0 m pc ls [.int r1.1]) := by
    intro r1 H locs pc ls e1 hP hS hd; cases e1; exact hend0 H locs pc ls hP hS hd
  clear hend0
  have hw0 : ∀ w ∈ wsX00, w ∈ wsX4_ebb := by decide +kernel
  have hw4 : ∀ w ∈ wsX40, w ∈ wsX4_ebb := by decide +kernel
  have k10 := hts (.fieldLink RX4 10 "AnchorsForConfession" "now" "LAnchorsForConfession$Harbour;") (by decide +kernel)
  have k16 := hts (.fieldLink RX4 16 "AnchorsForConfession" "thought" "LAnchorsForConfession$Harbour;") (by decide +kernel)
  have k177 := hts (.fieldLink RX4 177 "AnchorsForConfession$Harbour" "tide" "I") (by decide +kernel)
  have kc176 := hts (.constant RX4 176 1000000000) (by decide +kernel)
  replace hl : lv_has ls 2 [(0, .ref (A 0)), (1, .int p1)] := hl
  refine lv_aload_n hx hb dX4_ebb_0 rfl (lv_at hl 0 rfl) ?_
  refine va_get (D := D) (ci := 4) (v := .ref (A 1)) (C := RX4) (T := TX4) (N := 8) hx hb hts hw4 hown hK hP 0 cX_at0 rfl 0 (by decide) k10 (fun _ h9 => h9) rfl dX4_ebb_1 ?_
  refine lv_iload_n hx hb dX4_ebb_4 rfl (lv_at hl 1 rfl) ?_
  obtain ⟨a_1, ha_1, hf⟩ := bd_e hf
  refine Ct.callV (As := [.int p1]) (rest := []) (st1 := [.int a_1]) (c_X0_hasShip l D cI (fun j => A (1 + j)) n p1 a_1 ha_1) hx hb hml hown hts (cwV 1 hts gX4_ebb_X0_hasShip rfl rfl rfl hd_X0_hasShip ⟨Nat.le_of_ble_eq_true rfl, Nat.le_of_ble_eq_true rfl⟩) (va_recv hK hP (ci := 0) (q0 := 1) rfl cX_at1) ln_X_H_n hA hK hP hD hS rfl hl.1 rfl rfl (Nat.le_of_ble_eq_true rfl) dX4_ebb_5 (fun H locs hP hD hS => ?_)
  refine lv_if_ne (tgt := 20) hx hb dX4_ebb_8 (by decide) (fun c_2 => ?_) (fun c_2 => ?_)
  · replace hf := if_f c_2 hf
    refine lv_aload_n hx hb dX4_ebb_20 rfl (lv_at hl 0 rfl) ?_
    refine va_get (D := D) (ci := 4) (v := .ref (A 10)) (C := RX4) (T := TX4) (N := 8) hx hb hts hw4 hown hK hP 0 cX_at0 rfl 1 (by decide) k16 (fun _ h9 => h9) rfl dX4_ebb_21 ?_
    refine lv_aload_n hx hb dX4_ebb_24 rfl (lv_at hl 0 rfl) ?_
    refine va_get (D := D) (ci := 4) (v := .ref (A 1)) (C := RX4) (T := TX4) (N := 8) hx hb hts hw4 hown hK hP 0 cX_at0 rfl 0 (by decide) k10 (fun _ h9 => h9) rfl dX4_ebb_25 ?_
    obtain ⟨a_3, ha_3, hf⟩ := bd_e hf
    refine Ct.callV (As := [.ref (A 1)]) (rest := []) (st1 := []) (c_X0_copyFrom l D cI (fun j => A (10 + j)) (fun j => A (1 + j)) t n a_3 ha_3) hx hb hml hown hts (cwV 1 hts gX4_ebb_X0_copyFrom rfl rfl rfl hd_X0_copyFrom ⟨Nat.le_of_ble_eq_true rfl, Nat.le_of_ble_eq_true rfl⟩) (va_recv hK hP (ci := 0) (q0 := 10) rfl cX_at10) ln_X_HH_tn hA hK hP hD hS rfl hl.1 rfl rfl (Nat.le_of_ble_eq_true rfl) dX4_ebb_28 (fun H locs hP hD hS => ?_)
    replace hP : va_P D vwCl (cX cI A n a_3 k g w z q) H := hP
    replace hD : va_D AA (cX cI A n a_3 k g w z q) := hD
    refine lv_aload_n hx hb dX4_ebb_31 rfl (lv_at hl 0 rfl) ?_
    refine va_get (D := D) (ci := 4) (v := .ref (A 10)) (C := RX4) (T := TX4) (N := 8) hx hb hts hw4 hown hK hP 0 cX_at0 rfl 1 (by decide) k16 (fun _ h9 => h9) rfl dX4_ebb_32 ?_
    refine lv_dup hx hb dX4_ebb_35 rfl ?_
    refine va_get (D := D) (ci := 0) (v := .int (a_3 16 3)) (C := RX0) (T := TX0) (N := 12) hx hb hts hw0 hown hK hP 10 cX_at10 rfl 10 (by decide) k177 (fun _ h9 => h9) rfl dX4_ebb_36 ?_
    refine lv_iconst (v := 1) hx hb dX4_ebb_39 (by decide) ?_
    refine lv_iadd hx hb dX4_ebb_40 ?_
    refine va_put (D := D) (ci := 0) (v := .int ((a_3 16 3) + (1 : Int32))) (ty := .int) (C := RX0) (T := TX0) (N := 12) hx hb hts hw0 tyX0 tyX0_ok nmX0 hown hK hP hD hS 10 cX_at10 rfl 10 (by decide) k177 (fun _ h9 => h9) rfl (tyX0_ok 10 (by decide)) rfl rfl (Nat.le_of_ble_eq_true rfl) dX4_ebb_41 (fun H locs hP hD hS => ?_)
    obtain ⟨h_4, eh_4, hf⟩ := nq_e hf
    rw [cX_sc10_10, ← eh_4] at hP hD
    refine lv_aload_n hx hb dX4_ebb_44 rfl (lv_at hl 0 rfl) ?_
    refine va_get (D := D) (ci := 4) (v := .ref (A 10)) (C := RX4) (T := TX4) (N := 8) hx hb hts hw4 hown hK hP 0 cX_at0 rfl 1 (by decide) k16 (fun _ h9 => h9) rfl dX4_ebb_45 ?_
    refine lv_iload_n hx hb dX4_ebb_48 rfl (lv_at hl 1 rfl) ?_
    obtain ⟨a_5, ha_5, hf⟩ := bd_e hf
    refine Ct.callV (As := [.int p1]) (rest := []) (st1 := [.int a_5]) (c_X0_pool l D cI (fun j => A (10 + j)) h_4 p1 a_5 ha_5) hx hb hml hown hts (cwV 1 hts gX4_ebb_X0_pool rfl rfl rfl hd_X0_pool ⟨Nat.le_of_ble_eq_true rfl, Nat.le_of_ble_eq_true rfl⟩) (va_recv hK hP (ci := 0) (q0 := 10) rfl cX_at10) ln_X_H_t hA hK hP hD hS rfl hl.1 rfl rfl (Nat.le_of_ble_eq_true rfl) dX4_ebb_49 (fun H locs hP hD hS => ?_)
    refine lv_aload_n hx hb dX4_ebb_52 rfl (lv_at hl 0 rfl) ?_
    refine va_get (D := D) (ci := 4) (v := .ref (A 1)) (C := RX4) (T := TX4) (N := 8) hx hb hts hw4 hown hK hP 0 cX_at0 rfl 0 (by decide) k10 (fun _ h9 => h9) rfl dX4_ebb_53 ?_
    refine lv_iload_n hx hb dX4_ebb_56 rfl (lv_at hl 1 rfl) ?_
    obtain ⟨a_6, ha_6, hf⟩ := bd_e hf
    refine Ct.callV (As := [.int p1]) (rest := [.int a_5]) (st1 := [.int a_6, .int a_5]) (c_X0_pool l D cI (fun j => A (1 + j)) n p1 a_6 ha_6) hx hb hml hown hts (cwV 1 hts gX4_ebb_X0_pool rfl rfl rfl hd_X0_pool ⟨Nat.le_of_ble_eq_true rfl, Nat.le_of_ble_eq_true rfl⟩) (va_recv hK hP (ci := 0) (q0 := 1) rfl cX_at1) ln_X_H_n hA hK hP hD hS rfl hl.1 rfl rfl (Nat.le_of_ble_eq_true rfl) dX4_ebb_57 (fun H locs hP hD hS => ?_)
    refine lv_isub hx hb dX4_ebb_60 ?_
    exact hend ((a_5 - a_6), h_4, q) H locs _ _ hf hP hS dX4_ebb_61
  · replace hf := if_t c_2 hf
    refine lv_ldc (v := 1000000000) hx hb hown kc176 dX4_ebb_11 ?_
    refine lv_aload_n hx hb dX4_ebb_13 rfl (lv_at hl 0 rfl) ?_
    refine lv_iconst (v := -1) hx hb dX4_ebb_14 (by decide) ?_
    obtain ⟨a_7, ha_7, hf⟩ := bd_e hf
    refine Ct.callV (As := [.int (-1 : Int32)]) (rest := [.int (1000000000 : Int32)]) (st1 := [.int a_7.1, .int (1000000000 : Int32)]) (c_X4_refused l D cI A n t k g w z q (-1 : Int32) a_7 ha_7) hx hb hml hown hts (cwV 1 hts gX4_ebb_X4_refused rfl rfl rfl hd_X4_refused ⟨Nat.le_of_ble_eq_true rfl, Nat.le_of_ble_eq_true rfl⟩) (va_recv hK hP (ci := 4) (q0 := 0) rfl cX_at0) (Ln.id rfl) hA hK hP hD hS rfl hl.1 rfl rfl (Nat.le_of_ble_eq_true rfl) dX4_ebb_15 (fun H locs hP hD hS => ?_)
    replace hP : va_P D vwCl (cX cI A n t k g w z a_7.2) H := hP
    replace hD : va_D AA (cX cI A n t k g w z a_7.2) := hD
    refine lv_isub hx hb dX4_ebb_18 ?_
    exact hend (((1000000000 : Int32) - a_7.1), t, a_7.2) H locs _ _ hf hP hS dX4_ebb_19

def rm_X4_missing : Room := { frames := 3, cells := 0, slots := 0, locals := 67 }
theorem hd_X4_missing : yX4_missing.cls = RX4 ∧ yX4_missing.cls ≠ "java/lang/invoke/MethodHandle" ∧ yX4_missing.cls ≠ "java/lang/invoke/VarHandle" ∧ (parseMethodDescriptor yX4_missing.desc).map (fun d => d.parameters.length) = some 0 := by decide +kernel
set_option maxRecDepth 100000 in
set_option maxHeartbeats 4000000 in
theorem c_X4_missing (l : Launch) (D : va_G) (cI : ClassId) (A : Nat → Nat) (n : St) (t : St) (k : St) (g : St) (w : St) (z : St) (q : St) (r : Int32) (hf : f_X4_missing n t k g w z q = some r) : Ct l yX4_missing wsX4_missing rm_X4_missing D cI (cX cI A n t k g w z q) (cX cI A n t k g w z q) [.ref (A 0)] (some (.int r)) := by
  unfold f_X4_missing at hf
  refine Ct.ofI (cc := cX4_missing) (maxL := 3) (by decide +kernel) rfl (Nat.le_of_ble_eq_true rfl) ?_
  intro p e s m args below meth c AA Q H locs ls hx hb hml hown hts hA hK hP hD hS hl hend0
  have hend : ∀ (r1 : Int32) (H : Heap) (locs : List Loc) (pc : Nat) (ls : Array Slot), some r1 = some r → va_P D vwCl (cX cI A n t k g w z q) H → va_S AA s.heap H locs → decode cX4_missing pc = .ok (.ireturn, 1) → W p l e rm_X4_missing s m args below meth c H locs 0 0 Q (F0 m pc ls [.int r1]) := by
    intro r1 H locs pc ls e1 hP hS hd; cases e1; exact hend0 H locs pc ls hP hS hd
  clear hend0
  have hw0 : ∀ w ∈ wsX00, w ∈ wsX4_missing := by decide +kernel
  have hw4 : ∀ w ∈ wsX40, w ∈ wsX4_missing := by decide +kernel
  have k10 := hts (.fieldLink RX4 10 "AnchorsForConfession" "now" "LAnchorsForConfession$Harbour;") (by decide +kernel)
  have k136 := hts (.fieldLink RX4 136 "AnchorsForConfession$Harbour" "ships" "I") (by decide +kernel)
  have km180 := hts (.methodLink RX4 180 Lib.Math.max.name) (by decide +kernel)
  have ks180 := hts (.static Lib.Math.max.name) (by decide +kernel)
  have ki180 := hts (.initialized "java/lang/Math") (by decide +kernel)
  have kk180 := hts (.code Lib.Math.max.name Lib.Math.max.code 2 (some .int)) (by decide +kernel)
  replace hl : lv_has ls 3 [(0, .ref (A 0))] := hl
  refine lv_iconst (v := 0) hx hb dX4_missing_0 (by decide) ?_
  refine lv_istore_n (lv' := [(1, .int (0 : Int32)), (0, .ref (A 0))]) hx hb dX4_missing_1 rfl hl (by decide) rfl (fun ls hl => ?_)
  refine lv_iconst (v := 0) hx hb dX4_missing_2 (by decide) ?_
  refine lv_istore_n (lv' := [(2, .int (0 : Int32)), (1, .int (0 : Int32)), (0, .ref (A 0))]) hx hb dX4_missing_3 rfl hl (by decide) rfl (fun ls hl => ?_)
  refine lp_ind (P := fun (q4 : Int32 × Int32) => ∀ (H : Heap) (locs : List Loc) (ls : Array Slot), va_P D vwCl (cX cI A n t k g w z q) H → va_D AA (cX cI A n t k g w z q) → va_S AA s.heap H locs → lv_has ls 3 [(0, .ref (A 0)), (1, .int q4.1), (2, .int q4.2)] → W p l e rm_X4_missing s m args below meth c H locs 0 0 Q (F0 m 4 ls [])) hf ?_ H locs ls hP hD hS (lv_sub hl [2, 1, 0] rfl)
  clear hf hP hD hS hl
  intro nx4 ih4 q4 hf H locs ls hP hD hS hl
  refine lv_iload_n hx hb dX4_missing_4 rfl (lv_at hl 2 rfl) ?_
  refine lv_aload_n hx hb dX4_missing_5 rfl (lv_at hl 0 rfl) ?_
  refine va_get (D := D) (ci := 4) (v := .ref (A 1)) (C := RX4) (T := TX4) (N := 8) hx hb hts hw4 hown hK hP 0 cX_at0 rfl 0 (by decide) k10 (fun _ h9 => h9) rfl dX4_missing_6 ?_
  refine va_get (D := D) (ci := 0) (v := .int (n 16 0)) (C := RX0) (T := TX0) (N := 12) hx hb hts hw0 hown hK hP 1 cX_at1 rfl 0 (by decide) k136 (fun _ h9 => h9) rfl dX4_missing_9 ?_
  refine lv_icmp_ge (tgt := 56) hx hb dX4_missing_12 (by decide) (fun c_1 => ?_) (fun c_1 => ?_)
  · replace hf := if_t c_1 hf
    refine lv_iload_n hx hb dX4_missing_56 rfl (lv_at hl 1 rfl) ?_
    exact hend q4.1 H locs _ _ hf hP hS dX4_missing_57
  · replace hf := if_f c_1 hf
    refine lv_aload_n hx hb dX4_missing_15 rfl (lv_at hl 0 rfl) ?_
    refine va_get (D := D) (ci := 4) (v := .ref (A 1)) (C := RX4) (T := TX4) (N := 8) hx hb hts hw4 hown hK hP 0 cX_at0 rfl 0 (by decide) k10 (fun _ h9 => h9) rfl dX4_missing_16 ?_
    refine lv_iload_n hx hb dX4_missing_19 rfl (lv_at hl 2 rfl) ?_
    obtain ⟨a_2, ha_2, hf⟩ := bd_e hf
    refine Ct.callV (As := [.int q4.2]) (rest := []) (st1 := [.int a_2]) (c_X0_isIn l D cI (fun j => A (1 + j)) n q4.2 a_2 ha_2) hx hb hml hown hts (cwV 1 hts gX4_missing_X0_isIn rfl rfl rfl hd_X0_isIn ⟨Nat.le_of_ble_eq_true rfl, Nat.le_of_ble_eq_true rfl⟩) (va_recv hK hP (ci := 0) (q0 := 1) rfl cX_at1) ln_X_H_n hA hK hP hD hS rfl hl.1 rfl rfl (Nat.le_of_ble_eq_true rfl) dX4_missing_20 (fun H locs hP hD hS => ?_)
    refine lv_if_eq (tgt := 50) hx hb dX4_missing_23 (by decide) (fun c_3 => ?_) (fun c_3 => ?_)
    · replace hf := if_t c_3 hf
      obtain ⟨v_4, ev_4, hf⟩ := nq_e hf
      refine lv_iinc (v := v_4) (lv' := [(2, .int v_4), (0, .ref (A 0)), (1, .int q4.1)]) hx hb dX4_missing_50 hl (k := 2) rfl (by rw [ev_4]; rfl) (by decide) rfl (fun ls hl => ?_)
      refine lv_goto (tgt := 4) hx hb dX4_missing_53 (by decide) ?_
      exact ih4 (q4.1, v_4) hf H locs ls hP hD hS (lv_sub hl [1, 2, 0] rfl)
    · replace hf := if_f c_3 hf
      refine lv_iload_n hx hb dX4_missing_26 rfl (lv_at hl 1 rfl) ?_
      refine lv_iconst (v := 0) hx hb dX4_missing_27 (by decide) ?_
      refine lv_aload_n hx hb dX4_missing_28 rfl (lv_at hl 0 rfl) ?_
      refine va_get (D := D) (ci := 4) (v := .ref (A 1)) (C := RX4) (T := TX4) (N := 8) hx hb hts hw4 hown hK hP 0 cX_at0 rfl 0 (by decide) k10 (fun _ h9 => h9) rfl dX4_missing_29 ?_
      refine lv_iload_n hx hb dX4_missing_32 rfl (lv_at hl 2 rfl) ?_
      obtain ⟨a_5, ha_5, hf⟩ := bd_e hf
      refine Ct.callV (As := [.int q4.2]) (rest := [.int (0 : Int32), .int q4.1]) (st1 := [.int a_5, .int (0 : Int32), .int q4.1]) (c_X0_lacks l D cI (fun j => A (1 + j)) n q4.2 a_5 ha_5) hx hb hml hown hts (cwV 1 hts gX4_missing_X0_lacks rfl rfl rfl hd_X0_lacks ⟨Nat.le_of_ble_eq_true rfl, Nat.le_of_ble_eq_true rfl⟩) (va_recv hK hP (ci := 0) (q0 := 1) rfl cX_at1) ln_X_H_n hA hK hP hD hS rfl hl.1 rfl rfl (Nat.le_of_ble_eq_true rfl) dX4_missing_33 (fun H locs hP hD hS => ?_)
      refine lv_aload_n hx hb dX4_missing_36 rfl (lv_at hl 0 rfl) ?_
      refine va_get (D := D) (ci := 4) (v := .ref (A 1)) (C := RX4) (T := TX4) (N := 8) hx hb hts hw4 hown hK hP 0 cX_at0 rfl 0 (by decide) k10 (fun _ h9 => h9) rfl dX4_missing_37 ?_
      refine lv_iload_n hx hb dX4_missing_40 rfl (lv_at hl 2 rfl) ?_
      obtain ⟨a_6, ha_6, hf⟩ := bd_e hf
      refine Ct.callV (As := [.int q4.2]) (rest := [.int a_5, .int (0 : Int32), .int q4.1]) (st1 := [.int a_6, .int a_5, .int (0 : Int32), .int q4.1]) (c_X0_pool l D cI (fun j => A (1 + j)) n q4.2 a_6 ha_6) hx hb hml hown hts (cwV 1 hts gX4_missing_X0_pool rfl rfl rfl hd_X0_pool ⟨Nat.le_of_ble_eq_true rfl, Nat.le_of_ble_eq_true rfl⟩) (va_recv hK hP (ci := 0) (q0 := 1) rfl cX_at1) ln_X_H_n hA hK hP hD hS rfl hl.1 rfl rfl (Nat.le_of_ble_eq_true rfl) dX4_missing_41 (fun H locs hP hD hS => ?_)
      refine lv_isub hx hb dX4_missing_44 ?_
      refine va_mmax hx hb (by rw [hml]; exact hl.1.symm) hown km180 ks180 ki180 kk180 (Nat.le_of_ble_eq_true rfl) (Nat.le_of_ble_eq_true rfl) (Nat.zero_le _) (Nat.zero_le _) dX4_missing_45 ?_
      refine lv_iadd hx hb dX4_missing_48 ?_
      refine lv_topi (fun v_7 ev_7 => ?_)
      replace hf := nm_at ev_7 hf
      refine lv_istore_n (lv' := [(1, .int v_7), (0, .ref (A 0)), (2, .int q4.2)]) hx hb dX4_missing_49 rfl hl (by decide) rfl (fun ls hl => ?_)
      obtain ⟨v_8, ev_8, hf⟩ := nq_e hf
      refine lv_iinc (v := v_8) (lv' := [(2, .int v_8), (1, .int v_7), (0, .ref (A 0))]) hx hb dX4_missing_50 hl (k := 2) rfl (by rw [ev_8]; rfl) (by decide) rfl (fun ls hl => ?_)
      refine lv_goto (tgt := 4) hx hb dX4_missing_53 (by decide) ?_
      exact ih4 (v_7, v_8) hf H locs ls hP hD hS (lv_sub hl [2, 1, 0] rfl)

def rm_X4_gainOf : Room := { frames := 4, cells := 0, slots := 0, locals := 89 }
theorem hd_X4_gainOf : yX4_gainOf.cls = RX4 ∧ yX4_gainOf.cls ≠ "java/lang/invoke/MethodHandle" ∧ yX4_gainOf.cls ≠ "java/lang/invoke/VarHandle" ∧ (parseMethodDescriptor yX4_gainOf.desc).map (fun d => d.parameters.length) = some 5 := by decide +kernel
set_option maxRecDepth 100000 in
set_option maxHeartbeats 4000000 in
theorem c_X4_gainOf (l : Launch) (D : va_G) (cI : ClassId) (A : Nat → Nat) (n : St) (t : St) (k : St) (g : St) (w : St) (z : St) (q : St) (p1 : Int32) (p2 : Int32) (p3 : Int32) (p4 : Int32) (p5 : Int32) (r : Int32 × St) (hf : f_X4_gainOf n t k g w z q p1 p2 p3 p4 p5 = some r) : Ct l yX4_gainOf wsX4_gainOf rm_X4_gainOf D cI (cX cI A n t k g w z q) (cX cI A n r.2 k g w z q) [.ref (A 0), .int p1, .int p2, .int p3, .int p4, .int p5] (some (.int r.1)) := by
  unfold f_X4_gainOf at hf
  refine Ct.ofI (cc := cX4_gainOf) (maxL := 10) (by decide +kernel) rfl (Nat.le_of_ble_eq_true rfl) ?_
  intro p e s m args below meth c AA Q H locs ls hx hb hml hown hts hA hK hP hD hS hl hend0
  have hend : ∀ (r1 : Int32 × St) (H : Heap) (locs : List Loc) (pc : Nat) (ls : Array Slot), some r1 = some r → va_P D vwCl (cX cI A n r1.2 k g w z q) H → va_S AA s.heap H locs → decode cX4_gainOf pc = .ok (.ireturn, 1) → W p l e rm_X4_gainOf s m args below meth c H locs 0 0 Q (F0 m pc ls [.int r1.1]) := by
    intro r1 H locs pc ls e1 hP hS hd; cases e1; exact hend0 H locs pc ls hP hS hd
  clear hend0
  have hw0 : ∀ w ∈ wsX00, w ∈ wsX4_gainOf := by decide +kernel
  have hw4 : ∀ w ∈ wsX40, w ∈ wsX4_gainOf := by decide +kernel
  have k10 := hts (.fieldLink RX4 10 "AnchorsForConfession" "now" "LAnchorsForConfession$Harbour;") (by decide +kernel)
  have k16 := hts (.fieldLink RX4 16 "AnchorsForConfession" "thought" "LAnchorsForConfession$Harbour;") (by decide +kernel)
  have k86 := hts (.fieldLink RX4 86 "AnchorsForConfession$Harbour" "aboard" "[I") (by decide +kernel)
  replace hl : lv_has ls 10 [(0, .ref (A 0)), (1, .int p1), (2, .int p2), (3, .int p3), (4, .int p4), (5, .int p5)] := hl
  refine lv_aload_n hx hb dX4_gainOf_0 rfl (lv_at hl 0 rfl) ?_
  refine va_get (D := D) (ci := 4) (v := .ref (A 10)) (C := RX4) (T := TX4) (N := 8) hx hb hts hw4 hown hK hP 0 cX_at0 rfl 1 (by decide) k16 (fun _ h9 => h9) rfl dX4_gainOf_1 ?_
  refine lv_aload_n hx hb dX4_gainOf_4 rfl (lv_at hl 0 rfl) ?_
  refine va_get (D := D) (ci := 4) (v := .ref (A 1)) (C := RX4) (T := TX4) (N := 8) hx hb hts hw4 hown hK hP 0 cX_at0 rfl 0 (by decide) k10 (fun _ h9 => h9) rfl dX4_gainOf_5 ?_
  obtain ⟨a_1, ha_1, hf⟩ := bd_e hf
  refine Ct.callV (As := [.ref (A 1)]) (rest := []) (st1 := []) (c_X0_copyFrom l D cI (fun j => A (10 + j)) (fun j => A (1 + j)) t n a_1 ha_1) hx hb hml hown hts (cwV 1 hts gX4_gainOf_X0_copyFrom rfl rfl rfl hd_X0_copyFrom ⟨Nat.le_of_ble_eq_true rfl, Nat.le_of_ble_eq_true rfl⟩) (va_recv hK hP (ci := 0) (q0 := 10) rfl cX_at10) ln_X_HH_tn hA hK hP hD hS rfl hl.1 rfl rfl (Nat.le_of_ble_eq_true rfl) dX4_gainOf_8 (fun H locs hP hD hS => ?_)
  replace hP : va_P D vwCl (cX cI A n a_1 k g w z q) H := hP
  replace hD : va_D AA (cX cI A n a_1 k g w z q) := hD
  refine lv_iload hx hb dX4_gainOf_11 (lv_at hl 4 rfl) ?_
  refine lv_iconst (v := 1) hx hb dX4_gainOf_13 (by decide) ?_
  refine lv_icmp_ne (tgt := 32) hx hb dX4_gainOf_14 (by decide) (fun c_2 => ?_) (fun c_2 => ?_)
  · replace hf := if_f c_2 hf
    refine lv_iconst (v := 0) hx hb dX4_gainOf_32 (by decide) ?_
    refine lv_istore (lv' := [(6, .int (0 : Int32)), (0, .ref (A 0)), (1, .int p1), (2, .int p2), (3, .int p3), (4, .int p4), (5, .int p5)]) hx hb dX4_gainOf_33 hl (by decide) rfl (fun ls hl => ?_)
    refine lv_iload hx hb dX4_gainOf_35 (lv_at hl 0 rfl) ?_
    refine lv_if_eq (tgt := 49) hx hb dX4_gainOf_37 (by decide) (fun _ => ?_) (fun c0 => absurd c0 (by decide))
    refine lv_iload hx hb dX4_gainOf_49 (lv_at hl 6 rfl) ?_
    refine lv_iconst (v := 1) hx hb dX4_gainOf_51 (by decide) ?_
    refine lv_icmp_ne (tgt := 70) hx hb dX4_gainOf_52 (by decide) (fun c_3 => ?_) (fun c_3 => ?_)
    · replace hf := if_f c_3 hf
      refine lv_iconst (v := 0) hx hb dX4_gainOf_70 (by decide) ?_
      refine lv_istore (lv' := [(7, .int (0 : Int32)), (6, .int (0 : Int32)), (0, .ref (A 0)), (1, .int p1), (2, .int p2), (3, .int p3), (4, .int p4), (5, .int p5)]) hx hb dX4_gainOf_71 hl (by decide) rfl (fun ls hl => ?_)
      refine lv_iload hx hb dX4_gainOf_73 (lv_at hl 0 rfl) ?_
      refine lv_if_eq (tgt := 87) hx hb dX4_gainOf_75 (by decide) (fun _ => ?_) (fun c0 => absurd c0 (by decide))
      refine lv_aload_n hx hb dX4_gainOf_87 rfl (lv_at hl 2 rfl) ?_
      refine va_get (D := D) (ci := 4) (v := .ref (A 10)) (C := RX4) (T := TX4) (N := 8) hx hb hts hw4 hown hK hP 0 cX_at0 rfl 1 (by decide) k16 (fun _ h9 => h9) rfl dX4_gainOf_88 ?_
      refine lv_aload_n hx hb dX4_gainOf_91 rfl (lv_at hl 2 rfl) ?_
      refine va_get (D := D) (ci := 4) (v := .ref (A 10)) (C := RX4) (T := TX4) (N := 8) hx hb hts hw4 hown hK hP 0 cX_at0 rfl 1 (by decide) k16 (fun _ h9 => h9) rfl dX4_gainOf_92 ?_
      refine va_get (D := D) (ci := 0) (v := .ref (A 17)) (C := RX0) (T := TX0) (N := 12) hx hb hts hw0 hown hK hP 10 cX_at10 rfl 8 (by decide) k86 (fun _ h9 => h9) rfl dX4_gainOf_95 ?_
      refine lv_iload_n hx hb dX4_gainOf_98 rfl (lv_at hl 3 rfl) ?_
      obtain ⟨c_4, hf⟩ := gi_e hf
      refine va_iald hx hb hK hP 17 0 cX_at17 rfl c_4 dX4_gainOf_99 ?_
      obtain ⟨a_5, ha_5, hf⟩ := bd_e hf
      refine Ct.callV (As := [.int (a_1 7 (p1).toNatClampNeg)]) (rest := []) (st1 := [.int a_5]) (c_X0_isIn l D cI (fun j => A (10 + j)) a_1 (a_1 7 (p1).toNatClampNeg) a_5 ha_5) hx hb hml hown hts (cwV 1 hts gX4_gainOf_X0_isIn rfl rfl rfl hd_X0_isIn ⟨Nat.le_of_ble_eq_true rfl, Nat.le_of_ble_eq_true rfl⟩) (va_recv hK hP (ci := 0) (q0 := 10) rfl cX_at10) ln_X_H_t hA hK hP hD hS rfl hl.1 rfl rfl (Nat.le_of_ble_eq_true rfl) dX4_gainOf_100 (fun H locs hP hD hS => ?_)
      refine lv_if_eq (tgt := 110) hx hb dX4_gainOf_103 (by decide) (fun c_6 => ?_) (fun c_6 => ?_)
      · replace hf := if_t c_6 hf
        refine lv_iconst (v := 3) hx hb dX4_gainOf_110 (by decide) ?_
        refine lv_istore (lv' := [(8, .int (3 : Int32)), (7, .int (0 : Int32)), (6, .int (0 : Int32)), (0, .ref (A 0)), (1, .int p1), (2, .int p2), (3, .int p3), (4, .int p4), (5, .int p5)]) hx hb dX4_gainOf_111 hl (by decide) rfl (fun ls hl => ?_)
        refine lv_iload_n hx hb dX4_gainOf_113 rfl (lv_at hl 4 rfl) ?_
        refine lv_iload_n hx hb dX4_gainOf_114 rfl (lv_at hl 5 rfl) ?_
        refine lv_icmp_ne (tgt := 123) hx hb dX4_gainOf_115 (by decide) (fun c_7 => ?_) (fun c_7 => ?_)
        · replace hf := if_f c_7 hf
          refine lv_iload hx hb dX4_gainOf_123 (lv_at hl 1 rfl) ?_
          refine lv_istore (lv' := [(9, .int (0 : Int32)), (8, .int (3 : Int32)), (7, .int (0 : Int32)), (6, .int (0 : Int32)), (0, .ref (A 0)), (1, .int p1), (2, .int p2), (3, .int p3), (4, .int p4), (5, .int p5)]) hx hb dX4_gainOf_125 hl (by decide) rfl (fun ls hl => ?_)
          refine lv_iload hx hb dX4_gainOf_127 (lv_at hl 0 rfl) ?_
          refine lv_if_eq (tgt := 139) hx hb dX4_gainOf_129 (by decide) (fun _ => ?_) (fun c0 => absurd c0 (by decide))
          refine lv_iload hx hb dX4_gainOf_139 (lv_at hl 1 rfl) ?_
          exact hend ((3 : Int32), a_1) H locs _ _ hf hP hS dX4_gainOf_141
        · replace hf := if_t c_7 hf
          refine lv_iload hx hb dX4_gainOf_118 (lv_at hl 2 rfl) ?_
          refine lv_goto (tgt := 125) hx hb dX4_gainOf_120 (by decide) ?_
          refine lv_istore (lv' := [(9, .int (0 : Int32)), (8, .int (3 : Int32)), (7, .int (0 : Int32)), (6, .int (0 : Int32)), (0, .ref (A 0)), (1, .int p1), (2, .int p2), (3, .int p3), (4, .int p4), (5, .int p5)]) hx hb dX4_gainOf_125 hl (by decide) rfl (fun ls hl => ?_)
          refine lv_iload hx hb dX4_gainOf_127 (lv_at hl 0 rfl) ?_
          refine lv_if_eq (tgt := 139) hx hb dX4_gainOf_129 (by decide) (fun _ => ?_) (fun c0 => absurd c0 (by decide))
          refine lv_iload hx hb dX4_gainOf_139 (lv_at hl 1 rfl) ?_
          exact hend ((3 : Int32), a_1) H locs _ _ hf hP hS dX4_gainOf_141
      · replace hf := if_f c_6 hf
        refine lv_iconst (v := 0) hx hb dX4_gainOf_106 (by decide) ?_
        refine lv_goto (tgt := 111) hx hb dX4_gainOf_107 (by decide) ?_
        refine lv_istore (lv' := [(8, .int (0 : Int32)), (7, .int (0 : Int32)), (6, .int (0 : Int32)), (0, .ref (A 0)), (1, .int p1), (2, .int p2), (3, .int p3), (4, .int p4), (5, .int p5)]) hx hb dX4_gainOf_111 hl (by decide) rfl (fun ls hl => ?_)
        refine lv_iload_n hx hb dX4_gainOf_113 rfl (lv_at hl 4 rfl) ?_
        refine lv_iload_n hx hb dX4_gainOf_114 rfl (lv_at hl 5 rfl) ?_
        refine lv_icmp_ne (tgt := 123) hx hb dX4_gainOf_115 (by decide) (fun c_8 => ?_) (fun c_8 => ?_)
        · replace hf := if_f c_8 hf
          refine lv_iload hx hb dX4_gainOf_123 (lv_at hl 1 rfl) ?_
          refine lv_istore (lv' := [(9, .int (0 : Int32)), (8, .int (0 : Int32)), (7, .int (0 : Int32)), (6, .int (0 : Int32)), (0, .ref (A 0)), (1, .int p1), (2, .int p2), (3, .int p3), (4, .int p4), (5, .int p5)]) hx hb dX4_gainOf_125 hl (by decide) rfl (fun ls hl => ?_)
          refine lv_iload hx hb dX4_gainOf_127 (lv_at hl 0 rfl) ?_
          refine lv_if_eq (tgt := 139) hx hb dX4_gainOf_129 (by decide) (fun _ => ?_) (fun c0 => absurd c0 (by decide))
          refine lv_iload hx hb dX4_gainOf_139 (lv_at hl 1 rfl) ?_
          exact hend ((0 : Int32), a_1) H locs _ _ hf hP hS dX4_gainOf_141
        · replace hf := if_t c_8 hf
          refine lv_iload hx hb dX4_gainOf_118 (lv_at hl 2 rfl) ?_
          refine lv_goto (tgt := 125) hx hb dX4_gainOf_120 (by decide) ?_
          refine lv_istore (lv' := [(9, .int (0 : Int32)), (8, .int (0 : Int32)), (7, .int (0 : Int32)), (6, .int (0 : Int32)), (0, .ref (A 0)), (1, .int p1), (2, .int p2), (3, .int p3), (4, .int p4), (5, .int p5)]) hx hb dX4_gainOf_125 hl (by decide) rfl (fun ls hl => ?_)
          refine lv_iload hx hb dX4_gainOf_127 (lv_at hl 0 rfl) ?_
          refine lv_if_eq (tgt := 139) hx hb dX4_gainOf_129 (by decide) (fun _ => ?_) (fun c0 => absurd c0 (by decide))
          refine lv_iload hx hb dX4_gainOf_139 (lv_at hl 1 rfl) ?_
          exact hend ((0 : Int32), a_1) H locs _ _ hf hP hS dX4_gainOf_141
    · replace hf := if_t c_3 hf
      refine lv_aload_n hx hb dX4_gainOf_55 rfl (lv_at hl 1 rfl) ?_
      refine va_get (D := D) (ci := 4) (v := .ref (A 10)) (C := RX4) (T := TX4) (N := 8) hx hb hts hw4 hown hK hP 0 cX_at0 rfl 1 (by decide) k16 (fun _ h9 => h9) rfl dX4_gainOf_56 ?_
      refine lv_iload_n hx hb dX4_gainOf_59 rfl (lv_at hl 4 rfl) ?_
      obtain ⟨a_9, ha_9, hf⟩ := bd_e hf
      refine Ct.callV (As := [.int p3]) (rest := []) (st1 := [.int a_9]) (c_X0_canTell l D cI (fun j => A (10 + j)) a_1 p3 a_9 ha_9) hx hb hml hown hts (cwV 1 hts gX4_gainOf_X0_canTell rfl rfl rfl hd_X0_canTell ⟨Nat.le_of_ble_eq_true rfl, Nat.le_of_ble_eq_true rfl⟩) (va_recv hK hP (ci := 0) (q0 := 10) rfl cX_at10) ln_X_H_t hA hK hP hD hS rfl hl.1 rfl rfl (Nat.le_of_ble_eq_true rfl) dX4_gainOf_60 (fun H locs hP hD hS => ?_)
      refine lv_if_eq (tgt := 70) hx hb dX4_gainOf_63 (by decide) (fun c_10 => ?_) (fun c_10 => ?_)
      · replace hf := if_t c_10 hf
        refine lv_iconst (v := 0) hx hb dX4_gainOf_70 (by decide) ?_
        refine lv_istore (lv' := [(7, .int (0 : Int32)), (6, .int (0 : Int32)), (0, .ref (A 0)), (1, .int p1), (2, .int p2), (3, .int p3), (4, .int p4), (5, .int p5)]) hx hb dX4_gainOf_71 hl (by decide) rfl (fun ls hl => ?_)
        refine lv_iload hx hb dX4_gainOf_73 (lv_at hl 0 rfl) ?_
        refine lv_if_eq (tgt := 87) hx hb dX4_gainOf_75 (by decide) (fun _ => ?_) (fun c0 => absurd c0 (by decide))
        refine lv_aload_n hx hb dX4_gainOf_87 rfl (lv_at hl 2 rfl) ?_
        refine va_get (D := D) (ci := 4) (v := .ref (A 10)) (C := RX4) (T := TX4) (N := 8) hx hb hts hw4 hown hK hP 0 cX_at0 rfl 1 (by decide) k16 (fun _ h9 => h9) rfl dX4_gainOf_88 ?_
        refine lv_aload_n hx hb dX4_gainOf_91 rfl (lv_at hl 2 rfl) ?_
        refine va_get (D := D) (ci := 4) (v := .ref (A 10)) (C := RX4) (T := TX4) (N := 8) hx hb hts hw4 hown hK hP 0 cX_at0 rfl 1 (by decide) k16 (fun _ h9 => h9) rfl dX4_gainOf_92 ?_
        refine va_get (D := D) (ci := 0) (v := .ref (A 17)) (C := RX0) (T := TX0) (N := 12) hx hb hts hw0 hown hK hP 10 cX_at10 rfl 8 (by decide) k86 (fun _ h9 => h9) rfl dX4_gainOf_95 ?_
        refine lv_iload_n hx hb dX4_gainOf_98 rfl (lv_at hl 3 rfl) ?_
        obtain ⟨c_11, hf⟩ := gi_e hf
        refine va_iald hx hb hK hP 17 0 cX_at17 rfl c_11 dX4_gainOf_99 ?_
        obtain ⟨a_12, ha_12, hf⟩ := bd_e hf
        refine Ct.callV (As := [.int (a_1 7 (p1).toNatClampNeg)]) (rest := []) (st1 := [.int a_12]) (c_X0_isIn l D cI (fun j => A (10 + j)) a_1 (a_1 7 (p1).toNatClampNeg) a_12 ha_12) hx hb hml hown hts (cwV 1 hts gX4_gainOf_X0_isIn rfl rfl rfl hd_X0_isIn ⟨Nat.le_of_ble_eq_true rfl, Nat.le_of_ble_eq_true rfl⟩) (va_recv hK hP (ci := 0) (q0 := 10) rfl cX_at10) ln_X_H_t hA hK hP hD hS rfl hl.1 rfl rfl (Nat.le_of_ble_eq_true rfl) dX4_gainOf_100 (fun H locs hP hD hS => ?_)
        refine lv_if_eq (tgt := 110) hx hb dX4_gainOf_103 (by decide) (fun c_13 => ?_) (fun c_13 => ?_)
        · replace hf := if_t c_13 hf
          refine lv_iconst (v := 3) hx hb dX4_gainOf_110 (by decide) ?_
          refine lv_istore (lv' := [(8, .int (3 : Int32)), (7, .int (0 : Int32)), (6, .int (0 : Int32)), (0, .ref (A 0)), (1, .int p1), (2, .int p2), (3, .int p3), (4, .int p4), (5, .int p5)]) hx hb dX4_gainOf_111 hl (by decide) rfl (fun ls hl => ?_)
          refine lv_iload_n hx hb dX4_gainOf_113 rfl (lv_at hl 4 rfl) ?_
          refine lv_iload_n hx hb dX4_gainOf_114 rfl (lv_at hl 5 rfl) ?_
          refine lv_icmp_ne (tgt := 123) hx hb dX4_gainOf_115 (by decide) (fun c_14 => ?_) (fun c_14 => ?_)
          · replace hf := if_f c_14 hf
            refine lv_iload hx hb dX4_gainOf_123 (lv_at hl 1 rfl) ?_
            refine lv_istore (lv' := [(9, .int (0 : Int32)), (8, .int (3 : Int32)), (7, .int (0 : Int32)), (6, .int (0 : Int32)), (0, .ref (A 0)), (1, .int p1), (2, .int p2), (3, .int p3), (4, .int p4), (5, .int p5)]) hx hb dX4_gainOf_125 hl (by decide) rfl (fun ls hl => ?_)
            refine lv_iload hx hb dX4_gainOf_127 (lv_at hl 0 rfl) ?_
            refine lv_if_eq (tgt := 139) hx hb dX4_gainOf_129 (by decide) (fun _ => ?_) (fun c0 => absurd c0 (by decide))
            refine lv_iload hx hb dX4_gainOf_139 (lv_at hl 1 rfl) ?_
            exact hend ((3 : Int32), a_1) H locs _ _ hf hP hS dX4_gainOf_141
          · replace hf := if_t c_14 hf
            refine lv_iload hx hb dX4_gainOf_118 (lv_at hl 2 rfl) ?_
            refine lv_goto (tgt := 125) hx hb dX4_gainOf_120 (by decide) ?_
            refine lv_istore (lv' := [(9, .int (0 : Int32)), (8, .int (3 : Int32)), (7, .int (0 : Int32)), (6, .int (0 : Int32)), (0, .ref (A 0)), (1, .int p1), (2, .int p2), (3, .int p3), (4, .int p4), (5, .int p5)]) hx hb dX4_gainOf_125 hl (by decide) rfl (fun ls hl => ?_)
            refine lv_iload hx hb dX4_gainOf_127 (lv_at hl 0 rfl) ?_
            refine lv_if_eq (tgt := 139) hx hb dX4_gainOf_129 (by decide) (fun _ => ?_) (fun c0 => absurd c0 (by decide))
            refine lv_iload hx hb dX4_gainOf_139 (lv_at hl 1 rfl) ?_
            exact hend ((3 : Int32), a_1) H locs _ _ hf hP hS dX4_gainOf_141
        · replace hf := if_f c_13 hf
          refine lv_iconst (v := 0) hx hb dX4_gainOf_106 (by decide) ?_
          refine lv_goto (tgt := 111) hx hb dX4_gainOf_107 (by decide) ?_
          refine lv_istore (lv' := [(8, .int (0 : Int32)), (7, .int (0 : Int32)), (6, .int (0 : Int32)), (0, .ref (A 0)), (1, .int p1), (2, .int p2), (3, .int p3), (4, .int p4), (5, .int p5)]) hx hb dX4_gainOf_111 hl (by decide) rfl (fun ls hl => ?_)
          refine lv_iload_n hx hb dX4_gainOf_113 rfl (lv_at hl 4 rfl) ?_
          refine lv_iload_n hx hb dX4_gainOf_114 rfl (lv_at hl 5 rfl) ?_
          refine lv_icmp_ne (tgt := 123) hx hb dX4_gainOf_115 (by decide) (fun c_15 => ?_) (fun c_15 => ?_)
          · replace hf := if_f c_15 hf
            refine lv_iload hx hb dX4_gainOf_123 (lv_at hl 1 rfl) ?_
            refine lv_istore (lv' := [(9, .int (0 : Int32)), (8, .int (0 : Int32)), (7, .int (0 : Int32)), (6, .int (0 : Int32)), (0, .ref (A 0)), (1, .int p1), (2, .int p2), (3, .int p3), (4, .int p4), (5, .int p5)]) hx hb dX4_gainOf_125 hl (by decide) rfl (fun ls hl => ?_)
            refine lv_iload hx hb dX4_gainOf_127 (lv_at hl 0 rfl) ?_
            refine lv_if_eq (tgt := 139) hx hb dX4_gainOf_129 (by decide) (fun _ => ?_) (fun c0 => absurd c0 (by decide))
            refine lv_iload hx hb dX4_gainOf_139 (lv_at hl 1 rfl) ?_
            exact hend ((0 : Int32), a_1) H locs _ _ hf hP hS dX4_gainOf_141
          · replace hf := if_t c_15 hf
            refine lv_iload hx hb dX4_gainOf_118 (lv_at hl 2 rfl) ?_
            refine lv_goto (tgt := 125) hx hb dX4_gainOf_120 (by decide) ?_
            refine lv_istore (lv' := [(9, .int (0 : Int32)), (8, .int (0 : Int32)), (7, .int (0 : Int32)), (6, .int (0 : Int32)), (0, .ref (A 0)), (1, .int p1), (2, .int p2), (3, .int p3), (4, .int p4), (5, .int p5)]) hx hb dX4_gainOf_125 hl (by decide) rfl (fun ls hl => ?_)
            refine lv_iload hx hb dX4_gainOf_127 (lv_at hl 0 rfl) ?_
            refine lv_if_eq (tgt := 139) hx hb dX4_gainOf_129 (by decide) (fun _ => ?_) (fun c0 => absurd c0 (by decide))
            refine lv_iload hx hb dX4_gainOf_139 (lv_at hl 1 rfl) ?_
            exact hend ((0 : Int32), a_1) H locs _ _ hf hP hS dX4_gainOf_141
      · replace hf := if_f c_10 hf
        refine lv_iconst (v := 1) hx hb dX4_gainOf_66 (by decide) ?_
        refine lv_goto (tgt := 71) hx hb dX4_gainOf_67 (by decide) ?_
        refine lv_istore (lv' := [(7, .int (1 : Int32)), (6, .int (0 : Int32)), (0, .ref (A 0)), (1, .int p1), (2, .int p2), (3, .int p3), (4, .int p4), (5, .int p5)]) hx hb dX4_gainOf_71 hl (by decide) rfl (fun ls hl => ?_)
        refine lv_iload hx hb dX4_gainOf_73 (lv_at hl 0 rfl) ?_
        refine lv_if_eq (tgt := 87) hx hb dX4_gainOf_75 (by decide) (fun c0 => absurd c0 (by decide)) (fun _ => ?_)
        refine lv_aload_n hx hb dX4_gainOf_78 rfl (lv_at hl 2 rfl) ?_
        refine va_get (D := D) (ci := 4) (v := .ref (A 10)) (C := RX4) (T := TX4) (N := 8) hx hb hts hw4 hown hK hP 0 cX_at0 rfl 1 (by decide) k16 (fun _ h9 => h9) rfl dX4_gainOf_79 ?_
        refine lv_iload_n hx hb dX4_gainOf_82 rfl (lv_at hl 5 rfl) ?_
        obtain ⟨a_16, ha_16, hf⟩ := bd_e hf
        refine Ct.callV (As := [.int p3]) (rest := []) (st1 := [.int a_16.1]) (c_X0_word l D cI (fun j => A (10 + j)) a_1 p3 a_16 ha_16) hx hb hml hown hts (cwV 1 hts gX4_gainOf_X0_word rfl rfl rfl hd_X0_word ⟨Nat.le_of_ble_eq_true rfl, Nat.le_of_ble_eq_true rfl⟩) (va_recv hK hP (ci := 0) (q0 := 10) rfl cX_at10) ln_X_H_t hA hK hP hD hS rfl hl.1 rfl rfl (Nat.le_of_ble_eq_true rfl) dX4_gainOf_83 (fun H locs hP hD hS => ?_)
        replace hP : va_P D vwCl (cX cI A n a_16.2 k g w z q) H := hP
        replace hD : va_D AA (cX cI A n a_16.2 k g w z q) := hD
        refine lv_pop hx hb dX4_gainOf_86 rfl ?_
        refine lv_aload_n hx hb dX4_gainOf_87 rfl (lv_at hl 2 rfl) ?_
        refine va_get (D := D) (ci := 4) (v := .ref (A 10)) (C := RX4) (T := TX4) (N := 8) hx hb hts hw4 hown hK hP 0 cX_at0 rfl 1 (by decide) k16 (fun _ h9 => h9) rfl dX4_gainOf_88 ?_
        refine lv_aload_n hx hb dX4_gainOf_91 rfl (lv_at hl 2 rfl) ?_
        refine va_get (D := D) (ci := 4) (v := .ref (A 10)) (C := RX4) (T := TX4) (N := 8) hx hb hts hw4 hown hK hP 0 cX_at0 rfl 1 (by decide) k16 (fun _ h9 => h9) rfl dX4_gainOf_92 ?_
        refine va_get (D := D) (ci := 0) (v := .ref (A 17)) (C := RX0) (T := TX0) (N := 12) hx hb hts hw0 hown hK hP 10 cX_at10 rfl 8 (by decide) k86 (fun _ h9 => h9) rfl dX4_gainOf_95 ?_
        refine lv_iload_n hx hb dX4_gainOf_98 rfl (lv_at hl 3 rfl) ?_
        obtain ⟨c_17, hf⟩ := gi_e hf
        refine va_iald hx hb hK hP 17 0 cX_at17 rfl c_17 dX4_gainOf_99 ?_
        obtain ⟨a_18, ha_18, hf⟩ := bd_e hf
        refine Ct.callV (As := [.int (a_16.2 7 (p1).toNatClampNeg)]) (rest := []) (st1 := [.int a_18]) (c_X0_isIn l D cI (fun j => A (10 + j)) a_16.2 (a_16.2 7 (p1).toNatClampNeg) a_18 ha_18) hx hb hml hown hts (cwV 1 hts gX4_gainOf_X0_isIn rfl rfl rfl hd_X0_isIn ⟨Nat.le_of_ble_eq_true rfl, Nat.le_of_ble_eq_true rfl⟩) (va_recv hK hP (ci := 0) (q0 := 10) rfl cX_at10) ln_X_H_t hA hK hP hD hS rfl hl.1 rfl rfl (Nat.le_of_ble_eq_true rfl) dX4_gainOf_100 (fun H locs hP hD hS => ?_)
        refine lv_if_eq (tgt := 110) hx hb dX4_gainOf_103 (by decide) (fun c_19 => ?_) (fun c_19 => ?_)
        · replace hf := if_t c_19 hf
          refine lv_iconst (v := 3) hx hb dX4_gainOf_110 (by decide) ?_
          refine lv_istore (lv' := [(8, .int (3 : Int32)), (7, .int (1 : Int32)), (6, .int (0 : Int32)), (0, .ref (A 0)), (1, .int p1), (2, .int p2), (3, .int p3), (4, .int p4), (5, .int p5)]) hx hb dX4_gainOf_111 hl (by decide) rfl (fun ls hl => ?_)
          refine lv_iload_n hx hb dX4_gainOf_113 rfl (lv_at hl 4 rfl) ?_
          refine lv_iload_n hx hb dX4_gainOf_114 rfl (lv_at hl 5 rfl) ?_
          refine lv_icmp_ne (tgt := 123) hx hb dX4_gainOf_115 (by decide) (fun c_20 => ?_) (fun c_20 => ?_)
          · replace hf := if_f c_20 hf
            refine lv_iload hx hb dX4_gainOf_123 (lv_at hl 1 rfl) ?_
            refine lv_istore (lv' := [(9, .int (1 : Int32)), (8, .int (3 : Int32)), (7, .int (1 : Int32)), (6, .int (0 : Int32)), (0, .ref (A 0)), (1, .int p1), (2, .int p2), (3, .int p3), (4, .int p4), (5, .int p5)]) hx hb dX4_gainOf_125 hl (by decide) rfl (fun ls hl => ?_)
            refine lv_iload hx hb dX4_gainOf_127 (lv_at hl 0 rfl) ?_
            refine lv_if_eq (tgt := 139) hx hb dX4_gainOf_129 (by decide) (fun c0 => absurd c0 (by decide)) (fun _ => ?_)
            refine lv_iload hx hb dX4_gainOf_132 (lv_at hl 1 rfl) ?_
            refine lv_iconst (v := 1) hx hb dX4_gainOf_134 (by decide) ?_
            refine lv_isub hx hb dX4_gainOf_135 ?_
            refine lv_goto (tgt := 141) hx hb dX4_gainOf_136 (by decide) ?_
            exact hend (((3 : Int32) - (1 : Int32)), a_16.2) H locs _ _ hf hP hS dX4_gainOf_141
          · replace hf := if_t c_20 hf
            refine lv_iload hx hb dX4_gainOf_118 (lv_at hl 2 rfl) ?_
            refine lv_goto (tgt := 125) hx hb dX4_gainOf_120 (by decide) ?_
            refine lv_istore (lv' := [(9, .int (0 : Int32)), (8, .int (3 : Int32)), (7, .int (1 : Int32)), (6, .int (0 : Int32)), (0, .ref (A 0)), (1, .int p1), (2, .int p2), (3, .int p3), (4, .int p4), (5, .int p5)]) hx hb dX4_gainOf_125 hl (by decide) rfl (fun ls hl => ?_)
            refine lv_iload hx hb dX4_gainOf_127 (lv_at hl 0 rfl) ?_
            refine lv_if_eq (tgt := 139) hx hb dX4_gainOf_129 (by decide) (fun _ => ?_) (fun c0 => absurd c0 (by decide))
            refine lv_iload hx hb dX4_gainOf_139 (lv_at hl 1 rfl) ?_
            exact hend ((3 : Int32), a_16.2) H locs _ _ hf hP hS dX4_gainOf_141
        · replace hf := if_f c_19 hf
          refine lv_iconst (v := 0) hx hb dX4_gainOf_106 (by decide) ?_
          refine lv_goto (tgt := 111) hx hb dX4_gainOf_107 (by decide) ?_
          refine lv_istore (lv' := [(8, .int (0 : Int32)), (7, .int (1 : Int32)), (6, .int (0 : Int32)), (0, .ref (A 0)), (1, .int p1), (2, .int p2), (3, .int p3), (4, .int p4), (5, .int p5)]) hx hb dX4_gainOf_111 hl (by decide) rfl (fun ls hl => ?_)
          refine lv_iload_n hx hb dX4_gainOf_113 rfl (lv_at hl 4 rfl) ?_
          refine lv_iload_n hx hb dX4_gainOf_114 rfl (lv_at hl 5 rfl) ?_
          refine lv_icmp_ne (tgt := 123) hx hb dX4_gainOf_115 (by decide) (fun c_21 => ?_) (fun c_21 => ?_)
          · replace hf := if_f c_21 hf
            refine lv_iload hx hb dX4_gainOf_123 (lv_at hl 1 rfl) ?_
            refine lv_istore (lv' := [(9, .int (1 : Int32)), (8, .int (0 : Int32)), (7, .int (1 : Int32)), (6, .int (0 : Int32)), (0, .ref (A 0)), (1, .int p1), (2, .int p2), (3, .int p3), (4, .int p4), (5, .int p5)]) hx hb dX4_gainOf_125 hl (by decide) rfl (fun ls hl => ?_)
            refine lv_iload hx hb dX4_gainOf_127 (lv_at hl 0 rfl) ?_
            refine lv_if_eq (tgt := 139) hx hb dX4_gainOf_129 (by decide) (fun c0 => absurd c0 (by decide)) (fun _ => ?_)
            refine lv_iload hx hb dX4_gainOf_132 (lv_at hl 1 rfl) ?_
            refine lv_iconst (v := 1) hx hb dX4_gainOf_134 (by decide) ?_
            refine lv_isub hx hb dX4_gainOf_135 ?_
            refine lv_goto (tgt := 141) hx hb dX4_gainOf_136 (by decide) ?_
            exact hend (((0 : Int32) - (1 : Int32)), a_16.2) H locs _ _ hf hP hS dX4_gainOf_141
          · replace hf := if_t c_21 hf
            refine lv_iload hx hb dX4_gainOf_118 (lv_at hl 2 rfl) ?_
            refine lv_goto (tgt := 125) hx hb dX4_gainOf_120 (by decide) ?_
            refine lv_istore (lv' := [(9, .int (0 : Int32)), (8, .int (0 : Int32)), (7, .int (1 : Int32)), (6, .int (0 : Int32)), (0, .ref (A 0)), (1, .int p1), (2, .int p2), (3, .int p3), (4, .int p4), (5, .int p5)]) hx hb dX4_gainOf_125 hl (by decide) rfl (fun ls hl => ?_)
            refine lv_iload hx hb dX4_gainOf_127 (lv_at hl 0 rfl) ?_
            refine lv_if_eq (tgt := 139) hx hb dX4_gainOf_129 (by decide) (fun _ => ?_) (fun c0 => absurd c0 (by decide))
            refine lv_iload hx hb dX4_gainOf_139 (lv_at hl 1 rfl) ?_
            exact hend ((0 : Int32), a_16.2) H locs _ _ hf hP hS dX4_gainOf_141
  · replace hf := if_t c_2 hf
    refine lv_aload_n hx hb dX4_gainOf_17 rfl (lv_at hl 0 rfl) ?_
    refine va_get (D := D) (ci := 4) (v := .ref (A 10)) (C := RX4) (T := TX4) (N := 8) hx hb hts hw4 hown hK hP 0 cX_at0 rfl 1 (by decide) k16 (fun _ h9 => h9) rfl dX4_gainOf_18 ?_
    refine lv_iload_n hx hb dX4_gainOf_21 rfl (lv_at hl 2 rfl) ?_
    obtain ⟨a_22, ha_22, hf⟩ := bd_e hf
    refine Ct.callV (As := [.int p2]) (rest := []) (st1 := [.int a_22]) (c_X0_canTell l D cI (fun j => A (10 + j)) a_1 p2 a_22 ha_22) hx hb hml hown hts (cwV 1 hts gX4_gainOf_X0_canTell rfl rfl rfl hd_X0_canTell ⟨Nat.le_of_ble_eq_true rfl, Nat.le_of_ble_eq_true rfl⟩) (va_recv hK hP (ci := 0) (q0 := 10) rfl cX_at10) ln_X_H_t hA hK hP hD hS rfl hl.1 rfl rfl (Nat.le_of_ble_eq_true rfl) dX4_gainOf_22 (fun H locs hP hD hS => ?_)
    refine lv_if_eq (tgt := 32) hx hb dX4_gainOf_25 (by decide) (fun c_23 => ?_) (fun c_23 => ?_)
    · replace hf := if_t c_23 hf
      refine lv_iconst (v := 0) hx hb dX4_gainOf_32 (by decide) ?_
      refine lv_istore (lv' := [(6, .int (0 : Int32)), (0, .ref (A 0)), (1, .int p1), (2, .int p2), (3, .int p3), (4, .int p4), (5, .int p5)]) hx hb dX4_gainOf_33 hl (by decide) rfl (fun ls hl => ?_)
      refine lv_iload hx hb dX4_gainOf_35 (lv_at hl 0 rfl) ?_
      refine lv_if_eq (tgt := 49) hx hb dX4_gainOf_37 (by decide) (fun _ => ?_) (fun c0 => absurd c0 (by decide))
      refine lv_iload hx hb dX4_gainOf_49 (lv_at hl 6 rfl) ?_
      refine lv_iconst (v := 1) hx hb dX4_gainOf_51 (by decide) ?_
      refine lv_icmp_ne (tgt := 70) hx hb dX4_gainOf_52 (by decide) (fun c_24 => ?_) (fun c_24 => ?_)
      · replace hf := if_f c_24 hf
        refine lv_iconst (v := 0) hx hb dX4_gainOf_70 (by decide) ?_
        refine lv_istore (lv' := [(7, .int (0 : Int32)), (6, .int (0 : Int32)), (0, .ref (A 0)), (1, .int p1), (2, .int p2), (3, .int p3), (4, .int p4), (5, .int p5)]) hx hb dX4_gainOf_71 hl (by decide) rfl (fun ls hl => ?_)
        refine lv_iload hx hb dX4_gainOf_73 (lv_at hl 0 rfl) ?_
        refine lv_if_eq (tgt := 87) hx hb dX4_gainOf_75 (by decide) (fun _ => ?_) (fun c0 => absurd c0 (by decide))
        refine lv_aload_n hx hb dX4_gainOf_87 rfl (lv_at hl 2 rfl) ?_
        refine va_get (D := D) (ci := 4) (v := .ref (A 10)) (C := RX4) (T := TX4) (N := 8) hx hb hts hw4 hown hK hP 0 cX_at0 rfl 1 (by decide) k16 (fun _ h9 => h9) rfl dX4_gainOf_88 ?_
        refine lv_aload_n hx hb dX4_gainOf_91 rfl (lv_at hl 2 rfl) ?_
        refine va_get (D := D) (ci := 4) (v := .ref (A 10)) (C := RX4) (T := TX4) (N := 8) hx hb hts hw4 hown hK hP 0 cX_at0 rfl 1 (by decide) k16 (fun _ h9 => h9) rfl dX4_gainOf_92 ?_
        refine va_get (D := D) (ci := 0) (v := .ref (A 17)) (C := RX0) (T := TX0) (N := 12) hx hb hts hw0 hown hK hP 10 cX_at10 rfl 8 (by decide) k86 (fun _ h9 => h9) rfl dX4_gainOf_95 ?_
        refine lv_iload_n hx hb dX4_gainOf_98 rfl (lv_at hl 3 rfl) ?_
        obtain ⟨c_25, hf⟩ := gi_e hf
        refine va_iald hx hb hK hP 17 0 cX_at17 rfl c_25 dX4_gainOf_99 ?_
        obtain ⟨a_26, ha_26, hf⟩ := bd_e hf
        refine Ct.callV (As := [.int (a_1 7 (p1).toNatClampNeg)]) (rest := []) (st1 := [.int a_26]) (c_X0_isIn l D cI (fun j => A (10 + j)) a_1 (a_1 7 (p1).toNatClampNeg) a_26 ha_26) hx hb hml hown hts (cwV 1 hts gX4_gainOf_X0_isIn rfl rfl rfl hd_X0_isIn ⟨Nat.le_of_ble_eq_true rfl, Nat.le_of_ble_eq_true rfl⟩) (va_recv hK hP (ci := 0) (q0 := 10) rfl cX_at10) ln_X_H_t hA hK hP hD hS rfl hl.1 rfl rfl (Nat.le_of_ble_eq_true rfl) dX4_gainOf_100 (fun H locs hP hD hS => ?_)
        refine lv_if_eq (tgt := 110) hx hb dX4_gainOf_103 (by decide) (fun c_27 => ?_) (fun c_27 => ?_)
        · replace hf := if_t c_27 hf
          refine lv_iconst (v := 3) hx hb dX4_gainOf_110 (by decide) ?_
          refine lv_istore (lv' := [(8, .int (3 : Int32)), (7, .int (0 : Int32)), (6, .int (0 : Int32)), (0, .ref (A 0)), (1, .int p1), (2, .int p2), (3, .int p3), (4, .int p4), (5, .int p5)]) hx hb dX4_gainOf_111 hl (by decide) rfl (fun ls hl => ?_)
          refine lv_iload_n hx hb dX4_gainOf_113 rfl (lv_at hl 4 rfl) ?_
          refine lv_iload_n hx hb dX4_gainOf_114 rfl (lv_at hl 5 rfl) ?_
          refine lv_icmp_ne (tgt := 123) hx hb dX4_gainOf_115 (by decide) (fun c_28 => ?_) (fun c_28 => ?_)
          · replace hf := if_f c_28 hf
            refine lv_iload hx hb dX4_gainOf_123 (lv_at hl 1 rfl) ?_
            refine lv_istore (lv' := [(9, .int (0 : Int32)), (8, .int (3 : Int32)), (7, .int (0 : Int32)), (6, .int (0 : Int32)), (0, .ref (A 0)), (1, .int p1), (2, .int p2), (3, .int p3), (4, .int p4), (5, .int p5)]) hx hb dX4_gainOf_125 hl (by decide) rfl (fun ls hl => ?_)
            refine lv_iload hx hb dX4_gainOf_127 (lv_at hl 0 rfl) ?_
            refine lv_if_eq (tgt := 139) hx hb dX4_gainOf_129 (by decide) (fun _ => ?_) (fun c0 => absurd c0 (by decide))
            refine lv_iload hx hb dX4_gainOf_139 (lv_at hl 1 rfl) ?_
            exact hend ((3 : Int32), a_1) H locs _ _ hf hP hS dX4_gainOf_141
          · replace hf := if_t c_28 hf
            refine lv_iload hx hb dX4_gainOf_118 (lv_at hl 2 rfl) ?_
            refine lv_goto (tgt := 125) hx hb dX4_gainOf_120 (by decide) ?_
            refine lv_istore (lv' := [(9, .int (0 : Int32)), (8, .int (3 : Int32)), (7, .int (0 : Int32)), (6, .int (0 : Int32)), (0, .ref (A 0)), (1, .int p1), (2, .int p2), (3, .int p3), (4, .int p4), (5, .int p5)]) hx hb dX4_gainOf_125 hl (by decide) rfl (fun ls hl => ?_)
            refine lv_iload hx hb dX4_gainOf_127 (lv_at hl 0 rfl) ?_
            refine lv_if_eq (tgt := 139) hx hb dX4_gainOf_129 (by decide) (fun _ => ?_) (fun c0 => absurd c0 (by decide))
            refine lv_iload hx hb dX4_gainOf_139 (lv_at hl 1 rfl) ?_
            exact hend ((3 : Int32), a_1) H locs _ _ hf hP hS dX4_gainOf_141
        · replace hf := if_f c_27 hf
          refine lv_iconst (v := 0) hx hb dX4_gainOf_106 (by decide) ?_
          refine lv_goto (tgt := 111) hx hb dX4_gainOf_107 (by decide) ?_
          refine lv_istore (lv' := [(8, .int (0 : Int32)), (7, .int (0 : Int32)), (6, .int (0 : Int32)), (0, .ref (A 0)), (1, .int p1), (2, .int p2), (3, .int p3), (4, .int p4), (5, .int p5)]) hx hb dX4_gainOf_111 hl (by decide) rfl (fun ls hl => ?_)
          refine lv_iload_n hx hb dX4_gainOf_113 rfl (lv_at hl 4 rfl) ?_
          refine lv_iload_n hx hb dX4_gainOf_114 rfl (lv_at hl 5 rfl) ?_
          refine lv_icmp_ne (tgt := 123) hx hb dX4_gainOf_115 (by decide) (fun c_29 => ?_) (fun c_29 => ?_)
          · replace hf := if_f c_29 hf
            refine lv_iload hx hb dX4_gainOf_123 (lv_at hl 1 rfl) ?_
            refine lv_istore (lv' := [(9, .int (0 : Int32)), (8, .int (0 : Int32)), (7, .int (0 : Int32)), (6, .int (0 : Int32)), (0, .ref (A 0)), (1, .int p1), (2, .int p2), (3, .int p3), (4, .int p4), (5, .int p5)]) hx hb dX4_gainOf_125 hl (by decide) rfl (fun ls hl => ?_)
            refine lv_iload hx hb dX4_gainOf_127 (lv_at hl 0 rfl) ?_
            refine lv_if_eq (tgt := 139) hx hb dX4_gainOf_129 (by decide) (fun _ => ?_) (fun c0 => absurd c0 (by decide))
            refine lv_iload hx hb dX4_gainOf_139 (lv_at hl 1 rfl) ?_
            exact hend ((0 : Int32), a_1) H locs _ _ hf hP hS dX4_gainOf_141
          · replace hf := if_t c_29 hf
            refine lv_iload hx hb dX4_gainOf_118 (lv_at hl 2 rfl) ?_
            refine lv_goto (tgt := 125) hx hb dX4_gainOf_120 (by decide) ?_
            refine lv_istore (lv' := [(9, .int (0 : Int32)), (8, .int (0 : Int32)), (7, .int (0 : Int32)), (6, .int (0 : Int32)), (0, .ref (A 0)), (1, .int p1), (2, .int p2), (3, .int p3), (4, .int p4), (5, .int p5)]) hx hb dX4_gainOf_125 hl (by decide) rfl (fun ls hl => ?_)
            refine lv_iload hx hb dX4_gainOf_127 (lv_at hl 0 rfl) ?_
            refine lv_if_eq (tgt := 139) hx hb dX4_gainOf_129 (by decide) (fun _ => ?_) (fun c0 => absurd c0 (by decide))
            refine lv_iload hx hb dX4_gainOf_139 (lv_at hl 1 rfl) ?_
            exact hend ((0 : Int32), a_1) H locs _ _ hf hP hS dX4_gainOf_141
      · replace hf := if_t c_24 hf
        refine lv_aload_n hx hb dX4_gainOf_55 rfl (lv_at hl 1 rfl) ?_
        refine va_get (D := D) (ci := 4) (v := .ref (A 10)) (C := RX4) (T := TX4) (N := 8) hx hb hts hw4 hown hK hP 0 cX_at0 rfl 1 (by decide) k16 (fun _ h9 => h9) rfl dX4_gainOf_56 ?_
        refine lv_iload_n hx hb dX4_gainOf_59 rfl (lv_at hl 4 rfl) ?_
        obtain ⟨a_30, ha_30, hf⟩ := bd_e hf
        refine Ct.callV (As := [.int p3]) (rest := []) (st1 := [.int a_30]) (c_X0_canTell l D cI (fun j => A (10 + j)) a_1 p3 a_30 ha_30) hx hb hml hown hts (cwV 1 hts gX4_gainOf_X0_canTell rfl rfl rfl hd_X0_canTell ⟨Nat.le_of_ble_eq_true rfl, Nat.le_of_ble_eq_true rfl⟩) (va_recv hK hP (ci := 0) (q0 := 10) rfl cX_at10) ln_X_H_t hA hK hP hD hS rfl hl.1 rfl rfl (Nat.le_of_ble_eq_true rfl) dX4_gainOf_60 (fun H locs hP hD hS => ?_)
        refine lv_if_eq (tgt := 70) hx hb dX4_gainOf_63 (by decide) (fun c_31 => ?_) (fun c_31 => ?_)
        · replace hf := if_t c_31 hf
          refine lv_iconst (v := 0) hx hb dX4_gainOf_70 (by decide) ?_
          refine lv_istore (lv' := [(7, .int (0 : Int32)), (6, .int (0 : Int32)), (0, .ref (A 0)), (1, .int p1), (2, .int p2), (3, .int p3), (4, .int p4), (5, .int p5)]) hx hb dX4_gainOf_71 hl (by decide) rfl (fun ls hl => ?_)
          refine lv_iload hx hb dX4_gainOf_73 (lv_at hl 0 rfl) ?_
          refine lv_if_eq (tgt := 87) hx hb dX4_gainOf_75 (by decide) (fun _ => ?_) (fun c0 => absurd c0 (by decide))
          refine lv_aload_n hx hb dX4_gainOf_87 rfl (lv_at hl 2 rfl) ?_
          refine va_get (D := D) (ci := 4) (v := .ref (A 10)) (C := RX4) (T := TX4) (N := 8) hx hb hts hw4 hown hK hP 0 cX_at0 rfl 1 (by decide) k16 (fun _ h9 => h9) rfl dX4_gainOf_88 ?_
          refine lv_aload_n hx hb dX4_gainOf_91 rfl (lv_at hl 2 rfl) ?_
          refine va_get (D := D) (ci := 4) (v := .ref (A 10)) (C := RX4) (T := TX4) (N := 8) hx hb hts hw4 hown hK hP 0 cX_at0 rfl 1 (by decide) k16 (fun _ h9 => h9) rfl dX4_gainOf_92 ?_
          refine va_get (D := D) (ci := 0) (v := .ref (A 17)) (C := RX0) (T := TX0) (N := 12) hx hb hts hw0 hown hK hP 10 cX_at10 rfl 8 (by decide) k86 (fun _ h9 => h9) rfl dX4_gainOf_95 ?_
          refine lv_iload_n hx hb dX4_gainOf_98 rfl (lv_at hl 3 rfl) ?_
          obtain ⟨c_32, hf⟩ := gi_e hf
          refine va_iald hx hb hK hP 17 0 cX_at17 rfl c_32 dX4_gainOf_99 ?_
          obtain ⟨a_33, ha_33, hf⟩ := bd_e hf
          refine Ct.callV (As := [.int (a_1 7 (p1).toNatClampNeg)]) (rest := []) (st1 := [.int a_33]) (c_X0_isIn l D cI (fun j => A (10 + j)) a_1 (a_1 7 (p1).toNatClampNeg) a_33 ha_33) hx hb hml hown hts (cwV 1 hts gX4_gainOf_X0_isIn rfl rfl rfl hd_X0_isIn ⟨Nat.le_of_ble_eq_true rfl, Nat.le_of_ble_eq_true rfl⟩) (va_recv hK hP (ci := 0) (q0 := 10) rfl cX_at10) ln_X_H_t hA hK hP hD hS rfl hl.1 rfl rfl (Nat.le_of_ble_eq_true rfl) dX4_gainOf_100 (fun H locs hP hD hS => ?_)
          refine lv_if_eq (tgt := 110) hx hb dX4_gainOf_103 (by decide) (fun c_34 => ?_) (fun c_34 => ?_)
          · replace hf := if_t c_34 hf
            refine lv_iconst (v := 3) hx hb dX4_gainOf_110 (by decide) ?_
            refine lv_istore (lv' := [(8, .int (3 : Int32)), (7, .int (0 : Int32)), (6, .int (0 : Int32)), (0, .ref (A 0)), (1, .int p1), (2, .int p2), (3, .int p3), (4, .int p4), (5, .int p5)]) hx hb dX4_gainOf_111 hl (by decide) rfl (fun ls hl => ?_)
            refine lv_iload_n hx hb dX4_gainOf_113 rfl (lv_at hl 4 rfl) ?_
            refine lv_iload_n hx hb dX4_gainOf_114 rfl (lv_at hl 5 rfl) ?_
            refine lv_icmp_ne (tgt := 123) hx hb dX4_gainOf_115 (by decide) (fun c_35 => ?_) (fun c_35 => ?_)
            · replace hf := if_f c_35 hf
              refine lv_iload hx hb dX4_gainOf_123 (lv_at hl 1 rfl) ?_
              refine lv_istore (lv' := [(9, .int (0 : Int32)), (8, .int (3 : Int32)), (7, .int (0 : Int32)), (6, .int (0 : Int32)), (0, .ref (A 0)), (1, .int p1), (2, .int p2), (3, .int p3), (4, .int p4), (5, .int p5)]) hx hb dX4_gainOf_125 hl (by decide) rfl (fun ls hl => ?_)
              refine lv_iload hx hb dX4_gainOf_127 (lv_at hl 0 rfl) ?_
              refine lv_if_eq (tgt := 139) hx hb dX4_gainOf_129 (by decide) (fun _ => ?_) (fun c0 => absurd c0 (by decide))
              refine lv_iload hx hb dX4_gainOf_139 (lv_at hl 1 rfl) ?_
              exact hend ((3 : Int32), a_1) H locs _ _ hf hP hS dX4_gainOf_141
            · replace hf := if_t c_35 hf
              refine lv_iload hx hb dX4_gainOf_118 (lv_at hl 2 rfl) ?_
              refine lv_goto (tgt := 125) hx hb dX4_gainOf_120 (by decide) ?_
              refine lv_istore (lv' := [(9, .int (0 : Int32)), (8, .int (3 : Int32)), (7, .int (0 : Int32)), (6, .int (0 : Int32)), (0, .ref (A 0)), (1, .int p1), (2, .int p2), (3, .int p3), (4, .int p4), (5, .int p5)]) hx hb dX4_gainOf_125 hl (by decide) rfl (fun ls hl => ?_)
              refine lv_iload hx hb dX4_gainOf_127 (lv_at hl 0 rfl) ?_
              refine lv_if_eq (tgt := 139) hx hb dX4_gainOf_129 (by decide) (fun _ => ?_) (fun c0 => absurd c0 (by decide))
              refine lv_iload hx hb dX4_gainOf_139 (lv_at hl 1 rfl) ?_
              exact hend ((3 : Int32), a_1) H locs _ _ hf hP hS dX4_gainOf_141
          · replace hf := if_f c_34 hf
            refine lv_iconst (v := 0) hx hb dX4_gainOf_106 (by decide) ?_
            refine lv_goto (tgt := 111) hx hb dX4_gainOf_107 (by decide) ?_
            refine lv_istore (lv' := [(8, .int (0 : Int32)), (7, .int (0 : Int32)), (6, .int (0 : Int32)), (0, .ref (A 0)), (1, .int p1), (2, .int p2), (3, .int p3), (4, .int p4), (5, .int p5)]) hx hb dX4_gainOf_111 hl (by decide) rfl (fun ls hl => ?_)
            refine lv_iload_n hx hb dX4_gainOf_113 rfl (lv_at hl 4 rfl) ?_
            refine lv_iload_n hx hb dX4_gainOf_114 rfl (lv_at hl 5 rfl) ?_
            refine lv_icmp_ne (tgt := 123) hx hb dX4_gainOf_115 (by decide) (fun c_36 => ?_) (fun c_36 => ?_)
            · replace hf := if_f c_36 hf
              refine lv_iload hx hb dX4_gainOf_123 (lv_at hl 1 rfl) ?_
              refine lv_istore (lv' := [(9, .int (0 : Int32)), (8, .int (0 : Int32)), (7, .int (0 : Int32)), (6, .int (0 : Int32)), (0, .ref (A 0)), (1, .int p1), (2, .int p2), (3, .int p3), (4, .int p4), (5, .int p5)]) hx hb dX4_gainOf_125 hl (by decide) rfl (fun ls hl => ?_)
              refine lv_iload hx hb dX4_gainOf_127 (lv_at hl 0 rfl) ?_
              refine lv_if_eq (tgt := 139) hx hb dX4_gainOf_129 (by decide) (fun _ => ?_) (fun c0 => absurd c0 (by decide))
              refine lv_iload hx hb dX4_gainOf_139 (lv_at hl 1 rfl) ?_
              exact hend ((0 : Int32), a_1) H locs _ _ hf hP hS dX4_gainOf_141
            · replace hf := if_t c_36 hf
              refine lv_iload hx hb dX4_gainOf_118 (lv_at hl 2 rfl) ?_
              refine lv_goto (tgt := 125) hx hb dX4_gainOf_120 (by decide) ?_
              refine lv_istore (lv' := [(9, .int (0 : Int32)), (8, .int (0 : Int32)), (7, .int (0 : Int32)), (6, .int (0 : Int32)), (0, .ref (A 0)), (1, .int p1), (2, .int p2), (3, .int p3), (4, .int p4), (5, .int p5)]) hx hb dX4_gainOf_125 hl (by decide) rfl (fun ls hl => ?_)
              refine lv_iload hx hb dX4_gainOf_127 (lv_at hl 0 rfl) ?_
              refine lv_if_eq (tgt := 139) hx hb dX4_gainOf_129 (by decide) (fun _ => ?_) (fun c0 => absurd c0 (by decide))
              refine lv_iload hx hb dX4_gainOf_139 (lv_at hl 1 rfl) ?_
              exact hend ((0 : Int32), a_1) H locs _ _ hf hP hS dX4_gainOf_141
        · replace hf := if_f c_31 hf
          refine lv_iconst (v := 1) hx hb dX4_gainOf_66 (by decide) ?_
          refine lv_goto (tgt := 71) hx hb dX4_gainOf_67 (by decide) ?_
          refine lv_istore (lv' := [(7, .int (1 : Int32)), (6, .int (0 : Int32)), (0, .ref (A 0)), (1, .int p1), (2, .int p2), (3, .int p3), (4, .int p4), (5, .int p5)]) hx hb dX4_gainOf_71 hl (by decide) rfl (fun ls hl => ?_)
          refine lv_iload hx hb dX4_gainOf_73 (lv_at hl 0 rfl) ?_
          refine lv_if_eq (tgt := 87) hx hb dX4_gainOf_75 (by decide) (fun c0 => absurd c0 (by decide)) (fun _ => ?_)
          refine lv_aload_n hx hb dX4_gainOf_78 rfl (lv_at hl 2 rfl) ?_
          refine va_get (D := D) (ci := 4) (v := .ref (A 10)) (C := RX4) (T := TX4) (N := 8) hx hb hts hw4 hown hK hP 0 cX_at0 rfl 1 (by decide) k16 (fun _ h9 => h9) rfl dX4_gainOf_79 ?_
          refine lv_iload_n hx hb dX4_gainOf_82 rfl (lv_at hl 5 rfl) ?_
          obtain ⟨a_37, ha_37, hf⟩ := bd_e hf
          refine Ct.callV (As := [.int p3]) (rest := []) (st1 := [.int a_37.1]) (c_X0_word l D cI (fun j => A (10 + j)) a_1 p3 a_37 ha_37) hx hb hml hown hts (cwV 1 hts gX4_gainOf_X0_word rfl rfl rfl hd_X0_word ⟨Nat.le_of_ble_eq_true rfl, Nat.le_of_ble_eq_true rfl⟩) (va_recv hK hP (ci := 0) (q0 := 10) rfl cX_at10) ln_X_H_t hA hK hP hD hS rfl hl.1 rfl rfl (Nat.le_of_ble_eq_true rfl) dX4_gainOf_83 (fun H locs hP hD hS => ?_)
          replace hP : va_P D vwCl (cX cI A n a_37.2 k g w z q) H := hP
          replace hD : va_D AA (cX cI A n a_37.2 k g w z q) := hD
          refine lv_pop hx hb dX4_gainOf_86 rfl ?_
          refine lv_aload_n hx hb dX4_gainOf_87 rfl (lv_at hl 2 rfl) ?_
          refine va_get (D := D) (ci := 4) (v := .ref (A 10)) (C := RX4) (T := TX4) (N := 8) hx hb hts hw4 hown hK hP 0 cX_at0 rfl 1 (by decide) k16 (fun _ h9 => h9) rfl dX4_gainOf_88 ?_
          refine lv_aload_n hx hb dX4_gainOf_91 rfl (lv_at hl 2 rfl) ?_
          refine va_get (D := D) (ci := 4) (v := .ref (A 10)) (C := RX4) (T := TX4) (N := 8) hx hb hts hw4 hown hK hP 0 cX_at0 rfl 1 (by decide) k16 (fun _ h9 => h9) rfl dX4_gainOf_92 ?_
          refine va_get (D := D) (ci := 0) (v := .ref (A 17)) (C := RX0) (T := TX0) (N := 12) hx hb hts hw0 hown hK hP 10 cX_at10 rfl 8 (by decide) k86 (fun _ h9 => h9) rfl dX4_gainOf_95 ?_
          refine lv_iload_n hx hb dX4_gainOf_98 rfl (lv_at hl 3 rfl) ?_
          obtain ⟨c_38, hf⟩ := gi_e hf
          refine va_iald hx hb hK hP 17 0 cX_at17 rfl c_38 dX4_gainOf_99 ?_
          obtain ⟨a_39, ha_39, hf⟩ := bd_e hf
          refine Ct.callV (As := [.int (a_37.2 7 (p1).toNatClampNeg)]) (rest := []) (st1 := [.int a_39]) (c_X0_isIn l D cI (fun j => A (10 + j)) a_37.2 (a_37.2 7 (p1).toNatClampNeg) a_39 ha_39) hx hb hml hown hts (cwV 1 hts gX4_gainOf_X0_isIn rfl rfl rfl hd_X0_isIn ⟨Nat.le_of_ble_eq_true rfl, Nat.le_of_ble_eq_true rfl⟩) (va_recv hK hP (ci := 0) (q0 := 10) rfl cX_at10) ln_X_H_t hA hK hP hD hS rfl hl.1 rfl rfl (Nat.le_of_ble_eq_true rfl) dX4_gainOf_100 (fun H locs hP hD hS => ?_)
          refine lv_if_eq (tgt := 110) hx hb dX4_gainOf_103 (by decide) (fun c_40 => ?_) (fun c_40 => ?_)
          · replace hf := if_t c_40 hf
            refine lv_iconst (v := 3) hx hb dX4_gainOf_110 (by decide) ?_
            refine lv_istore (lv' := [(8, .int (3 : Int32)), (7, .int (1 : Int32)), (6, .int (0 : Int32)), (0, .ref (A 0)), (1, .int p1), (2, .int p2), (3, .int p3), (4, .int p4), (5, .int p5)]) hx hb dX4_gainOf_111 hl (by decide) rfl (fun ls hl => ?_)
            refine lv_iload_n hx hb dX4_gainOf_113 rfl (lv_at hl 4 rfl) ?_
            refine lv_iload_n hx hb dX4_gainOf_114 rfl (lv_at hl 5 rfl) ?_
            refine lv_icmp_ne (tgt := 123) hx hb dX4_gainOf_115 (by decide) (fun c_41 => ?_) (fun c_41 => ?_)
            · replace hf := if_f c_41 hf
              refine lv_iload hx hb dX4_gainOf_123 (lv_at hl 1 rfl) ?_
              refine lv_istore (lv' := [(9, .int (1 : Int32)), (8, .int (3 : Int32)), (7, .int (1 : Int32)), (6, .int (0 : Int32)), (0, .ref (A 0)), (1, .int p1), (2, .int p2), (3, .int p3), (4, .int p4), (5, .int p5)]) hx hb dX4_gainOf_125 hl (by decide) rfl (fun ls hl => ?_)
              refine lv_iload hx hb dX4_gainOf_127 (lv_at hl 0 rfl) ?_
              refine lv_if_eq (tgt := 139) hx hb dX4_gainOf_129 (by decide) (fun c0 => absurd c0 (by decide)) (fun _ => ?_)
              refine lv_iload hx hb dX4_gainOf_132 (lv_at hl 1 rfl) ?_
              refine lv_iconst (v := 1) hx hb dX4_gainOf_134 (by decide) ?_
              refine lv_isub hx hb dX4_gainOf_135 ?_
              refine lv_goto (tgt := 141) hx hb dX4_gainOf_136 (by decide) ?_
              exact hend (((3 : Int32) - (1 : Int32)), a_37.2) H locs _ _ hf hP hS dX4_gainOf_141
            · replace hf := if_t c_41 hf
              refine lv_iload hx hb dX4_gainOf_118 (lv_at hl 2 rfl) ?_
              refine lv_goto (tgt := 125) hx hb dX4_gainOf_120 (by decide) ?_
              refine lv_istore (lv' := [(9, .int (0 : Int32)), (8, .int (3 : Int32)), (7, .int (1 : Int32)), (6, .int (0 : Int32)), (0, .ref (A 0)), (1, .int p1), (2, .int p2), (3, .int p3), (4, .int p4), (5, .int p5)]) hx hb dX4_gainOf_125 hl (by decide) rfl (fun ls hl => ?_)
              refine lv_iload hx hb dX4_gainOf_127 (lv_at hl 0 rfl) ?_
              refine lv_if_eq (tgt := 139) hx hb dX4_gainOf_129 (by decide) (fun _ => ?_) (fun c0 => absurd c0 (by decide))
              refine lv_iload hx hb dX4_gainOf_139 (lv_at hl 1 rfl) ?_
              exact hend ((3 : Int32), a_37.2) H locs _ _ hf hP hS dX4_gainOf_141
          · replace hf := if_f c_40 hf
            refine lv_iconst (v := 0) hx hb dX4_gainOf_106 (by decide) ?_
            refine lv_goto (tgt := 111) hx hb dX4_gainOf_107 (by decide) ?_
            refine lv_istore (lv' := [(8, .int (0 : Int32)), (7, .int (1 : Int32)), (6, .int (0 : Int32)), (0, .ref (A 0)), (1, .int p1), (2, .int p2), (3, .int p3), (4, .int p4), (5, .int p5)]) hx hb dX4_gainOf_111 hl (by decide) rfl (fun ls hl => ?_)
            refine lv_iload_n hx hb dX4_gainOf_113 rfl (lv_at hl 4 rfl) ?_
            refine lv_iload_n hx hb dX4_gainOf_114 rfl (lv_at hl 5 rfl) ?_
            refine lv_icmp_ne (tgt := 123) hx hb dX4_gainOf_115 (by decide) (fun c_42 => ?_) (fun c_42 => ?_)
            · replace hf := if_f c_42 hf
              refine lv_iload hx hb dX4_gainOf_123 (lv_at hl 1 rfl) ?_
              refine lv_istore (lv' := [(9, .int (1 : Int32)), (8, .int (0 : Int32)), (7, .int (1 : Int32)), (6, .int (0 : Int32)), (0, .ref (A 0)), (1, .int p1), (2, .int p2), (3, .int p3), (4, .int p4), (5, .int p5)]) hx hb dX4_gainOf_125 hl (by decide) rfl (fun ls hl => ?_)
              refine lv_iload hx hb dX4_gainOf_127 (lv_at hl 0 rfl) ?_
              refine lv_if_eq (tgt := 139) hx hb dX4_gainOf_129 (by decide) (fun c0 => absurd c0 (by decide)) (fun _ => ?_)
              refine lv_iload hx hb dX4_gainOf_132 (lv_at hl 1 rfl) ?_
              refine lv_iconst (v := 1) hx hb dX4_gainOf_134 (by decide) ?_
              refine lv_isub hx hb dX4_gainOf_135 ?_
              refine lv_goto (tgt := 141) hx hb dX4_gainOf_136 (by decide) ?_
              exact hend (((0 : Int32) - (1 : Int32)), a_37.2) H locs _ _ hf hP hS dX4_gainOf_141
            · replace hf := if_t c_42 hf
              refine lv_iload hx hb dX4_gainOf_118 (lv_at hl 2 rfl) ?_
              refine lv_goto (tgt := 125) hx hb dX4_gainOf_120 (by decide) ?_
              refine lv_istore (lv' := [(9, .int (0 : Int32)), (8, .int (0 : Int32)), (7, .int (1 : Int32)), (6, .int (0 : Int32)), (0, .ref (A 0)), (1, .int p1), (2, .int p2), (3, .int p3), (4, .int p4), (5, .int p5)]) hx hb dX4_gainOf_125 hl (by decide) rfl (fun ls hl => ?_)
              refine lv_iload hx hb dX4_gainOf_127 (lv_at hl 0 rfl) ?_
              refine lv_if_eq (tgt := 139) hx hb dX4_gainOf_129 (by decide) (fun _ => ?_) (fun c0 => absurd c0 (by decide))
              refine lv_iload hx hb dX4_gainOf_139 (lv_at hl 1 rfl) ?_
              exact hend ((0 : Int32), a_37.2) H locs _ _ hf hP hS dX4_gainOf_141
    · replace hf := if_f c_23 hf
      refine lv_iconst (v := 1) hx hb dX4_gainOf_28 (by decide) ?_
      refine lv_goto (tgt := 33) hx hb dX4_gainOf_29 (by decide) ?_
      refine lv_istore (lv' := [(6, .int (1 : Int32)), (0, .ref (A 0)), (1, .int p1), (2, .int p2), (3, .int p3), (4, .int p4), (5, .int p5)]) hx hb dX4_gainOf_33 hl (by decide) rfl (fun ls hl => ?_)
      refine lv_iload hx hb dX4_gainOf_35 (lv_at hl 0 rfl) ?_
      refine lv_if_eq (tgt := 49) hx hb dX4_gainOf_37 (by decide) (fun c0 => absurd c0 (by decide)) (fun _ => ?_)
      refine lv_aload_n hx hb dX4_gainOf_40 rfl (lv_at hl 1 rfl) ?_
      refine va_get (D := D) (ci := 4) (v := .ref (A 10)) (C := RX4) (T := TX4) (N := 8) hx hb hts hw4 hown hK hP 0 cX_at0 rfl 1 (by decide) k16 (fun _ h9 => h9) rfl dX4_gainOf_41 ?_
      refine lv_iload_n hx hb dX4_gainOf_44 rfl (lv_at hl 3 rfl) ?_
      obtain ⟨a_43, ha_43, hf⟩ := bd_e hf
      refine Ct.callV (As := [.int p2]) (rest := []) (st1 := [.int a_43.1]) (c_X0_word l D cI (fun j => A (10 + j)) a_1 p2 a_43 ha_43) hx hb hml hown hts (cwV 1 hts gX4_gainOf_X0_word rfl rfl rfl hd_X0_word ⟨Nat.le_of_ble_eq_true rfl, Nat.le_of_ble_eq_true rfl⟩) (va_recv hK hP (ci := 0) (q0 := 10) rfl cX_at10) ln_X_H_t hA hK hP hD hS rfl hl.1 rfl rfl (Nat.le_of_ble_eq_true rfl) dX4_gainOf_45 (fun H locs hP hD hS => ?_)
      replace hP : va_P D vwCl (cX cI A n a_43.2 k g w z q) H := hP
      replace hD : va_D AA (cX cI A n a_43.2 k g w z q) := hD
      refine lv_pop hx hb dX4_gainOf_48 rfl ?_
      refine lv_iload hx hb dX4_gainOf_49 (lv_at hl 6 rfl) ?_
      refine lv_iconst (v := 1) hx hb dX4_gainOf_51 (by decide) ?_
      refine lv_icmp_ne (tgt := 70) hx hb dX4_gainOf_52 (by decide) (fun c_44 => ?_) (fun c_44 => ?_)
      · replace hf := if_f c_44 hf
        refine lv_iconst (v := 0) hx hb dX4_gainOf_70 (by decide) ?_
        refine lv_istore (lv' := [(7, .int (0 : Int32)), (6, .int (1 : Int32)), (0, .ref (A 0)), (1, .int p1), (2, .int p2), (3, .int p3), (4, .int p4), (5, .int p5)]) hx hb dX4_gainOf_71 hl (by decide) rfl (fun ls hl => ?_)
        refine lv_iload hx hb dX4_gainOf_73 (lv_at hl 0 rfl) ?_
        refine lv_if_eq (tgt := 87) hx hb dX4_gainOf_75 (by decide) (fun _ => ?_) (fun c0 => absurd c0 (by decide))
        refine lv_aload_n hx hb dX4_gainOf_87 rfl (lv_at hl 2 rfl) ?_
        refine va_get (D := D) (ci := 4) (v := .ref (A 10)) (C := RX4) (T := TX4) (N := 8) hx hb hts hw4 hown hK hP 0 cX_at0 rfl 1 (by decide) k16 (fun _ h9 => h9) rfl dX4_gainOf_88 ?_
        refine lv_aload_n hx hb dX4_gainOf_91 rfl (lv_at hl 2 rfl) ?_
        refine va_get (D := D) (ci := 4) (v := .ref (A 10)) (C := RX4) (T := TX4) (N := 8) hx hb hts hw4 hown hK hP 0 cX_at0 rfl 1 (by decide) k16 (fun _ h9 => h9) rfl dX4_gainOf_92 ?_
        refine va_get (D := D) (ci := 0) (v := .ref (A 17)) (C := RX0) (T := TX0) (N := 12) hx hb hts hw0 hown hK hP 10 cX_at10 rfl 8 (by decide) k86 (fun _ h9 => h9) rfl dX4_gainOf_95 ?_
        refine lv_iload_n hx hb dX4_gainOf_98 rfl (lv_at hl 3 rfl) ?_
        obtain ⟨c_45, hf⟩ := gi_e hf
        refine va_iald hx hb hK hP 17 0 cX_at17 rfl c_45 dX4_gainOf_99 ?_
        obtain ⟨a_46, ha_46, hf⟩ := bd_e hf
        refine Ct.callV (As := [.int (a_43.2 7 (p1).toNatClampNeg)]) (rest := []) (st1 := [.int a_46]) (c_X0_isIn l D cI (fun j => A (10 + j)) a_43.2 (a_43.2 7 (p1).toNatClampNeg) a_46 ha_46) hx hb hml hown hts (cwV 1 hts gX4_gainOf_X0_isIn rfl rfl rfl hd_X0_isIn ⟨Nat.le_of_ble_eq_true rfl, Nat.le_of_ble_eq_true rfl⟩) (va_recv hK hP (ci := 0) (q0 := 10) rfl cX_at10) ln_X_H_t hA hK hP hD hS rfl hl.1 rfl rfl (Nat.le_of_ble_eq_true rfl) dX4_gainOf_100 (fun H locs hP hD hS => ?_)
        refine lv_if_eq (tgt := 110) hx hb dX4_gainOf_103 (by decide) (fun c_47 => ?_) (fun c_47 => ?_)
        · replace hf := if_t c_47 hf
          refine lv_iconst (v := 3) hx hb dX4_gainOf_110 (by decide) ?_
          refine lv_istore (lv' := [(8, .int (3 : Int32)), (7, .int (0 : Int32)), (6, .int (1 : Int32)), (0, .ref (A 0)), (1, .int p1), (2, .int p2), (3, .int p3), (4, .int p4), (5, .int p5)]) hx hb dX4_gainOf_111 hl (by decide) rfl (fun ls hl => ?_)
          refine lv_iload_n hx hb dX4_gainOf_113 rfl (lv_at hl 4 rfl) ?_
          refine lv_iload_n hx hb dX4_gainOf_114 rfl (lv_at hl 5 rfl) ?_
          refine lv_icmp_ne (tgt := 123) hx hb dX4_gainOf_115 (by decide) (fun c_48 => ?_) (fun c_48 => ?_)
          · replace hf := if_f c_48 hf
            refine lv_iload hx hb dX4_gainOf_123 (lv_at hl 1 rfl) ?_
            refine lv_istore (lv' := [(9, .int (0 : Int32)), (8, .int (3 : Int32)), (7, .int (0 : Int32)), (6, .int (1 : Int32)), (0, .ref (A 0)), (1, .int p1), (2, .int p2), (3, .int p3), (4, .int p4), (5, .int p5)]) hx hb dX4_gainOf_125 hl (by decide) rfl (fun ls hl => ?_)
            refine lv_iload hx hb dX4_gainOf_127 (lv_at hl 0 rfl) ?_
            refine lv_if_eq (tgt := 139) hx hb dX4_gainOf_129 (by decide) (fun _ => ?_) (fun c0 => absurd c0 (by decide))
            refine lv_iload hx hb dX4_gainOf_139 (lv_at hl 1 rfl) ?_
            exact hend ((3 : Int32), a_43.2) H locs _ _ hf hP hS dX4_gainOf_141
          · replace hf := if_t c_48 hf
            refine lv_iload hx hb dX4_gainOf_118 (lv_at hl 2 rfl) ?_
            refine lv_goto (tgt := 125) hx hb dX4_gainOf_120 (by decide) ?_
            refine lv_istore (lv' := [(9, .int (1 : Int32)), (8, .int (3 : Int32)), (7, .int (0 : Int32)), (6, .int (1 : Int32)), (0, .ref (A 0)), (1, .int p1), (2, .int p2), (3, .int p3), (4, .int p4), (5, .int p5)]) hx hb dX4_gainOf_125 hl (by decide) rfl (fun ls hl => ?_)
            refine lv_iload hx hb dX4_gainOf_127 (lv_at hl 0 rfl) ?_
            refine lv_if_eq (tgt := 139) hx hb dX4_gainOf_129 (by decide) (fun c0 => absurd c0 (by decide)) (fun _ => ?_)
            refine lv_iload hx hb dX4_gainOf_132 (lv_at hl 1 rfl) ?_
            refine lv_iconst (v := 1) hx hb dX4_gainOf_134 (by decide) ?_
            refine lv_isub hx hb dX4_gainOf_135 ?_
            refine lv_goto (tgt := 141) hx hb dX4_gainOf_136 (by decide) ?_
            exact hend (((3 : Int32) - (1 : Int32)), a_43.2) H locs _ _ hf hP hS dX4_gainOf_141
        · replace hf := if_f c_47 hf
          refine lv_iconst (v := 0) hx hb dX4_gainOf_106 (by decide) ?_
          refine lv_goto (tgt := 111) hx hb dX4_gainOf_107 (by decide) ?_
          refine lv_istore (lv' := [(8, .int (0 : Int32)), (7, .int (0 : Int32)), (6, .int (1 : Int32)), (0, .ref (A 0)), (1, .int p1), (2, .int p2), (3, .int p3), (4, .int p4), (5, .int p5)]) hx hb dX4_gainOf_111 hl (by decide) rfl (fun ls hl => ?_)
          refine lv_iload_n hx hb dX4_gainOf_113 rfl (lv_at hl 4 rfl) ?_
          refine lv_iload_n hx hb dX4_gainOf_114 rfl (lv_at hl 5 rfl) ?_
          refine lv_icmp_ne (tgt := 123) hx hb dX4_gainOf_115 (by decide) (fun c_49 => ?_) (fun c_49 => ?_)
          · replace hf := if_f c_49 hf
            refine lv_iload hx hb dX4_gainOf_123 (lv_at hl 1 rfl) ?_
            refine lv_istore (lv' := [(9, .int (0 : Int32)), (8, .int (0 : Int32)), (7, .int (0 : Int32)), (6, .int (1 : Int32)), (0, .ref (A 0)), (1, .int p1), (2, .int p2), (3, .int p3), (4, .int p4), (5, .int p5)]) hx hb dX4_gainOf_125 hl (by decide) rfl (fun ls hl => ?_)
            refine lv_iload hx hb dX4_gainOf_127 (lv_at hl 0 rfl) ?_
            refine lv_if_eq (tgt := 139) hx hb dX4_gainOf_129 (by decide) (fun _ => ?_) (fun c0 => absurd c0 (by decide))
            refine lv_iload hx hb dX4_gainOf_139 (lv_at hl 1 rfl) ?_
            exact hend ((0 : Int32), a_43.2) H locs _ _ hf hP hS dX4_gainOf_141
          · replace hf := if_t c_49 hf
            refine lv_iload hx hb dX4_gainOf_118 (lv_at hl 2 rfl) ?_
            refine lv_goto (tgt := 125) hx hb dX4_gainOf_120 (by decide) ?_
            refine lv_istore (lv' := [(9, .int (1 : Int32)), (8, .int (0 : Int32)), (7, .int (0 : Int32)), (6, .int (1 : Int32)), (0, .ref (A 0)), (1, .int p1), (2, .int p2), (3, .int p3), (4, .int p4), (5, .int p5)]) hx hb dX4_gainOf_125 hl (by decide) rfl (fun ls hl => ?_)
            refine lv_iload hx hb dX4_gainOf_127 (lv_at hl 0 rfl) ?_
            refine lv_if_eq (tgt := 139) hx hb dX4_gainOf_129 (by decide) (fun c0 => absurd c0 (by decide)) (fun _ => ?_)
            refine lv_iload hx hb dX4_gainOf_132 (lv_at hl 1 rfl) ?_
            refine lv_iconst (v := 1) hx hb dX4_gainOf_134 (by decide) ?_
            refine lv_isub hx hb dX4_gainOf_135 ?_
            refine lv_goto (tgt := 141) hx hb dX4_gainOf_136 (by decide) ?_
            exact hend (((0 : Int32) - (1 : Int32)), a_43.2) H locs _ _ hf hP hS dX4_gainOf_141
      · replace hf := if_t c_44 hf
        refine lv_aload_n hx hb dX4_gainOf_55 rfl (lv_at hl 1 rfl) ?_
        refine va_get (D := D) (ci := 4) (v := .ref (A 10)) (C := RX4) (T := TX4) (N := 8) hx hb hts hw4 hown hK hP 0 cX_at0 rfl 1 (by decide) k16 (fun _ h9 => h9) rfl dX4_gainOf_56 ?_
        refine lv_iload_n hx hb dX4_gainOf_59 rfl (lv_at hl 4 rfl) ?_
        obtain ⟨a_50, ha_50, hf⟩ := bd_e hf
        refine Ct.callV (As := [.int p3]) (rest := []) (st1 := [.int a_50]) (c_X0_canTell l D cI (fun j => A (10 + j)) a_43.2 p3 a_50 ha_50) hx hb hml hown hts (cwV 1 hts gX4_gainOf_X0_canTell rfl rfl rfl hd_X0_canTell ⟨Nat.le_of_ble_eq_true rfl, Nat.le_of_ble_eq_true rfl⟩) (va_recv hK hP (ci := 0) (q0 := 10) rfl cX_at10) ln_X_H_t hA hK hP hD hS rfl hl.1 rfl rfl (Nat.le_of_ble_eq_true rfl) dX4_gainOf_60 (fun H locs hP hD hS => ?_)
        refine lv_if_eq (tgt := 70) hx hb dX4_gainOf_63 (by decide) (fun c_51 => ?_) (fun c_51 => ?_)
        · replace hf := if_t c_51 hf
          refine lv_iconst (v := 0) hx hb dX4_gainOf_70 (by decide) ?_
          refine lv_istore (lv' := [(7, .int (0 : Int32)), (6, .int (1 : Int32)), (0, .ref (A 0)), (1, .int p1), (2, .int p2), (3, .int p3), (4, .int p4), (5, .int p5)]) hx hb dX4_gainOf_71 hl (by decide) rfl (fun ls hl => ?_)
          refine lv_iload hx hb dX4_gainOf_73 (lv_at hl 0 rfl) ?_
          refine lv_if_eq (tgt := 87) hx hb dX4_gainOf_75 (by decide) (fun _ => ?_) (fun c0 => absurd c0 (by decide))
          refine lv_aload_n hx hb dX4_gainOf_87 rfl (lv_at hl 2 rfl) ?_
          refine va_get (D := D) (ci := 4) (v := .ref (A 10)) (C := RX4) (T := TX4) (N := 8) hx hb hts hw4 hown hK hP 0 cX_at0 rfl 1 (by decide) k16 (fun _ h9 => h9) rfl dX4_gainOf_88 ?_
          refine lv_aload_n hx hb dX4_gainOf_91 rfl (lv_at hl 2 rfl) ?_
          refine va_get (D := D) (ci := 4) (v := .ref (A 10)) (C := RX4) (T := TX4) (N := 8) hx hb hts hw4 hown hK hP 0 cX_at0 rfl 1 (by decide) k16 (fun _ h9 => h9) rfl dX4_gainOf_92 ?_
          refine va_get (D := D) (ci := 0) (v := .ref (A 17)) (C := RX0) (T := TX0) (N := 12) hx hb hts hw0 hown hK hP 10 cX_at10 rfl 8 (by decide) k86 (fun _ h9 => h9) rfl dX4_gainOf_95 ?_
          refine lv_iload_n hx hb dX4_gainOf_98 rfl (lv_at hl 3 rfl) ?_
          obtain ⟨c_52, hf⟩ := gi_e hf
          refine va_iald hx hb hK hP 17 0 cX_at17 rfl c_52 dX4_gainOf_99 ?_
          obtain ⟨a_53, ha_53, hf⟩ := bd_e hf
          refine Ct.callV (As := [.int (a_43.2 7 (p1).toNatClampNeg)]) (rest := []) (st1 := [.int a_53]) (c_X0_isIn l D cI (fun j => A (10 + j)) a_43.2 (a_43.2 7 (p1).toNatClampNeg) a_53 ha_53) hx hb hml hown hts (cwV 1 hts gX4_gainOf_X0_isIn rfl rfl rfl hd_X0_isIn ⟨Nat.le_of_ble_eq_true rfl, Nat.le_of_ble_eq_true rfl⟩) (va_recv hK hP (ci := 0) (q0 := 10) rfl cX_at10) ln_X_H_t hA hK hP hD hS rfl hl.1 rfl rfl (Nat.le_of_ble_eq_true rfl) dX4_gainOf_100 (fun H locs hP hD hS => ?_)
          refine lv_if_eq (tgt := 110) hx hb dX4_gainOf_103 (by decide) (fun c_54 => ?_) (fun c_54 => ?_)
          · replace hf := if_t c_54 hf
            refine lv_iconst (v := 3) hx hb dX4_gainOf_110 (by decide) ?_
            refine lv_istore (lv' := [(8, .int (3 : Int32)), (7, .int (0 : Int32)), (6, .int (1 : Int32)), (0, .ref (A 0)), (1, .int p1), (2, .int p2), (3, .int p3), (4, .int p4), (5, .int p5)]) hx hb dX4_gainOf_111 hl (by decide) rfl (fun ls hl => ?_)
            refine lv_iload_n hx hb dX4_gainOf_113 rfl (lv_at hl 4 rfl) ?_
            refine lv_iload_n hx hb dX4_gainOf_114 rfl (lv_at hl 5 rfl) ?_
            refine lv_icmp_ne (tgt := 123) hx hb dX4_gainOf_115 (by decide) (fun c_55 => ?_) (fun c_55 => ?_)
            · replace hf := if_f c_55 hf
              refine lv_iload hx hb dX4_gainOf_123 (lv_at hl 1 rfl) ?_
              refine lv_istore (lv' := [(9, .int (0 : Int32)), (8, .int (3 : Int32)), (7, .int (0 : Int32)), (6, .int (1 : Int32)), (0, .ref (A 0)), (1, .int p1), (2, .int p2), (3, .int p3), (4, .int p4), (5, .int p5)]) hx hb dX4_gainOf_125 hl (by decide) rfl (fun ls hl => ?_)
              refine lv_iload hx hb dX4_gainOf_127 (lv_at hl 0 rfl) ?_
              refine lv_if_eq (tgt := 139) hx hb dX4_gainOf_129 (by decide) (fun _ => ?_) (fun c0 => absurd c0 (by decide))
              refine lv_iload hx hb dX4_gainOf_139 (lv_at hl 1 rfl) ?_
              exact hend ((3 : Int32), a_43.2) H locs _ _ hf hP hS dX4_gainOf_141
            · replace hf := if_t c_55 hf
              refine lv_iload hx hb dX4_gainOf_118 (lv_at hl 2 rfl) ?_
              refine lv_goto (tgt := 125) hx hb dX4_gainOf_120 (by decide) ?_
              refine lv_istore (lv' := [(9, .int (1 : Int32)), (8, .int (3 : Int32)), (7, .int (0 : Int32)), (6, .int (1 : Int32)), (0, .ref (A 0)), (1, .int p1), (2, .int p2), (3, .int p3), (4, .int p4), (5, .int p5)]) hx hb dX4_gainOf_125 hl (by decide) rfl (fun ls hl => ?_)
              refine lv_iload hx hb dX4_gainOf_127 (lv_at hl 0 rfl) ?_
              refine lv_if_eq (tgt := 139) hx hb dX4_gainOf_129 (by decide) (fun c0 => absurd c0 (by decide)) (fun _ => ?_)
              refine lv_iload hx hb dX4_gainOf_132 (lv_at hl 1 rfl) ?_
              refine lv_iconst (v := 1) hx hb dX4_gainOf_134 (by decide) ?_
              refine lv_isub hx hb dX4_gainOf_135 ?_
              refine lv_goto (tgt := 141) hx hb dX4_gainOf_136 (by decide) ?_
              exact hend (((3 : Int32) - (1 : Int32)), a_43.2) H locs _ _ hf hP hS dX4_gainOf_141
          · replace hf := if_f c_54 hf
            refine lv_iconst (v := 0) hx hb dX4_gainOf_106 (by decide) ?_
            refine lv_goto (tgt := 111) hx hb dX4_gainOf_107 (by decide) ?_
            refine lv_istore (lv' := [(8, .int (0 : Int32)), (7, .int (0 : Int32)), (6, .int (1 : Int32)), (0, .ref (A 0)), (1, .int p1), (2, .int p2), (3, .int p3), (4, .int p4), (5, .int p5)]) hx hb dX4_gainOf_111 hl (by decide) rfl (fun ls hl => ?_)
            refine lv_iload_n hx hb dX4_gainOf_113 rfl (lv_at hl 4 rfl) ?_
            refine lv_iload_n hx hb dX4_gainOf_114 rfl (lv_at hl 5 rfl) ?_
            refine lv_icmp_ne (tgt := 123) hx hb dX4_gainOf_115 (by decide) (fun c_56 => ?_) (fun c_56 => ?_)
            · replace hf := if_f c_56 hf
              refine lv_iload hx hb dX4_gainOf_123 (lv_at hl 1 rfl) ?_
              refine lv_istore (lv' := [(9, .int (0 : Int32)), (8, .int (0 : Int32)), (7, .int (0 : Int32)), (6, .int (1 : Int32)), (0, .ref (A 0)), (1, .int p1), (2, .int p2), (3, .int p3), (4, .int p4), (5, .int p5)]) hx hb dX4_gainOf_125 hl (by decide) rfl (fun ls hl => ?_)
              refine lv_iload hx hb dX4_gainOf_127 (lv_at hl 0 rfl) ?_
              refine lv_if_eq (tgt := 139) hx hb dX4_gainOf_129 (by decide) (fun _ => ?_) (fun c0 => absurd c0 (by decide))
              refine lv_iload hx hb dX4_gainOf_139 (lv_at hl 1 rfl) ?_
              exact hend ((0 : Int32), a_43.2) H locs _ _ hf hP hS dX4_gainOf_141
            · replace hf := if_t c_56 hf
              refine lv_iload hx hb dX4_gainOf_118 (lv_at hl 2 rfl) ?_
              refine lv_goto (tgt := 125) hx hb dX4_gainOf_120 (by decide) ?_
              refine lv_istore (lv' := [(9, .int (1 : Int32)), (8, .int (0 : Int32)), (7, .int (0 : Int32)), (6, .int (1 : Int32)), (0, .ref (A 0)), (1, .int p1), (2, .int p2), (3, .int p3), (4, .int p4), (5, .int p5)]) hx hb dX4_gainOf_125 hl (by decide) rfl (fun ls hl => ?_)
              refine lv_iload hx hb dX4_gainOf_127 (lv_at hl 0 rfl) ?_
              refine lv_if_eq (tgt := 139) hx hb dX4_gainOf_129 (by decide) (fun c0 => absurd c0 (by decide)) (fun _ => ?_)
              refine lv_iload hx hb dX4_gainOf_132 (lv_at hl 1 rfl) ?_
              refine lv_iconst (v := 1) hx hb dX4_gainOf_134 (by decide) ?_
              refine lv_isub hx hb dX4_gainOf_135 ?_
              refine lv_goto (tgt := 141) hx hb dX4_gainOf_136 (by decide) ?_
              exact hend (((0 : Int32) - (1 : Int32)), a_43.2) H locs _ _ hf hP hS dX4_gainOf_141
        · replace hf := if_f c_51 hf
          refine lv_iconst (v := 1) hx hb dX4_gainOf_66 (by decide) ?_
          refine lv_goto (tgt := 71) hx hb dX4_gainOf_67 (by decide) ?_
          refine lv_istore (lv' := [(7, .int (1 : Int32)), (6, .int (1 : Int32)), (0, .ref (A 0)), (1, .int p1), (2, .int p2), (3, .int p3), (4, .int p4), (5, .int p5)]) hx hb dX4_gainOf_71 hl (by decide) rfl (fun ls hl => ?_)
          refine lv_iload hx hb dX4_gainOf_73 (lv_at hl 0 rfl) ?_
          refine lv_if_eq (tgt := 87) hx hb dX4_gainOf_75 (by decide) (fun c0 => absurd c0 (by decide)) (fun _ => ?_)
          refine lv_aload_n hx hb dX4_gainOf_78 rfl (lv_at hl 2 rfl) ?_
          refine va_get (D := D) (ci := 4) (v := .ref (A 10)) (C := RX4) (T := TX4) (N := 8) hx hb hts hw4 hown hK hP 0 cX_at0 rfl 1 (by decide) k16 (fun _ h9 => h9) rfl dX4_gainOf_79 ?_
          refine lv_iload_n hx hb dX4_gainOf_82 rfl (lv_at hl 5 rfl) ?_
          obtain ⟨a_57, ha_57, hf⟩ := bd_e hf
          refine Ct.callV (As := [.int p3]) (rest := []) (st1 := [.int a_57.1]) (c_X0_word l D cI (fun j => A (10 + j)) a_43.2 p3 a_57 ha_57) hx hb hml hown hts (cwV 1 hts gX4_gainOf_X0_word rfl rfl rfl hd_X0_word ⟨Nat.le_of_ble_eq_true rfl, Nat.le_of_ble_eq_true rfl⟩) (va_recv hK hP (ci := 0) (q0 := 10) rfl cX_at10) ln_X_H_t hA hK hP hD hS rfl hl.1 rfl rfl (Nat.le_of_ble_eq_true rfl) dX4_gainOf_83 (fun H locs hP hD hS => ?_)
          replace hP : va_P D vwCl (cX cI A n a_57.2 k g w z q) H := hP
          replace hD : va_D AA (cX cI A n a_57.2 k g w z q) := hD
          refine lv_pop hx hb dX4_gainOf_86 rfl ?_
          refine lv_aload_n hx hb dX4_gainOf_87 rfl (lv_at hl 2 rfl) ?_
          refine va_get (D := D) (ci := 4) (v := .ref (A 10)) (C := RX4) (T := TX4) (N := 8) hx hb hts hw4 hown hK hP 0 cX_at0 rfl 1 (by decide) k16 (fun _ h9 => h9) rfl dX4_gainOf_88 ?_
          refine lv_aload_n hx hb dX4_gainOf_91 rfl (lv_at hl 2 rfl) ?_
          refine va_get (D := D) (ci := 4) (v := .ref (A 10)) (C := RX4) (T := TX4) (N := 8) hx hb hts hw4 hown hK hP 0 cX_at0 rfl 1 (by decide) k16 (fun _ h9 => h9) rfl dX4_gainOf_92 ?_
          refine va_get (D := D) (ci := 0) (v := .ref (A 17)) (C := RX0) (T := TX0) (N := 12) hx hb hts hw0 hown hK hP 10 cX_at10 rfl 8 (by decide) k86 (fun _ h9 => h9) rfl dX4_gainOf_95 ?_
          refine lv_iload_n hx hb dX4_gainOf_98 rfl (lv_at hl 3 rfl) ?_
          obtain ⟨c_58, hf⟩ := gi_e hf
          refine va_iald hx hb hK hP 17 0 cX_at17 rfl c_58 dX4_gainOf_99 ?_
          obtain ⟨a_59, ha_59, hf⟩ := bd_e hf
          refine Ct.callV (As := [.int (a_57.2 7 (p1).toNatClampNeg)]) (rest := []) (st1 := [.int a_59]) (c_X0_isIn l D cI (fun j => A (10 + j)) a_57.2 (a_57.2 7 (p1).toNatClampNeg) a_59 ha_59) hx hb hml hown hts (cwV 1 hts gX4_gainOf_X0_isIn rfl rfl rfl hd_X0_isIn ⟨Nat.le_of_ble_eq_true rfl, Nat.le_of_ble_eq_true rfl⟩) (va_recv hK hP (ci := 0) (q0 := 10) rfl cX_at10) ln_X_H_t hA hK hP hD hS rfl hl.1 rfl rfl (Nat.le_of_ble_eq_true rfl) dX4_gainOf_100 (fun H locs hP hD hS => ?_)
          refine lv_if_eq (tgt := 110) hx hb dX4_gainOf_103 (by decide) (fun c_60 => ?_) (fun c_60 => ?_)
          · replace hf := if_t c_60 hf
            refine lv_iconst (v := 3) hx hb dX4_gainOf_110 (by decide) ?_
            refine lv_istore (lv' := [(8, .int (3 : Int32)), (7, .int (1 : Int32)), (6, .int (1 : Int32)), (0, .ref (A 0)), (1, .int p1), (2, .int p2), (3, .int p3), (4, .int p4), (5, .int p5)]) hx hb dX4_gainOf_111 hl (by decide) rfl (fun ls hl => ?_)
            refine lv_iload_n hx hb dX4_gainOf_113 rfl (lv_at hl 4 rfl) ?_
            refine lv_iload_n hx hb dX4_gainOf_114 rfl (lv_at hl 5 rfl) ?_
            refine lv_icmp_ne (tgt := 123) hx hb dX4_gainOf_115 (by decide) (fun c_61 => ?_) (fun c_61 => ?_)
            · replace hf := if_f c_61 hf
              refine lv_iload hx hb dX4_gainOf_123 (lv_at hl 1 rfl) ?_
              refine lv_istore (lv' := [(9, .int (1 : Int32)), (8, .int (3 : Int32)), (7, .int (1 : Int32)), (6, .int (1 : Int32)), (0, .ref (A 0)), (1, .int p1), (2, .int p2), (3, .int p3), (4, .int p4), (5, .int p5)]) hx hb dX4_gainOf_125 hl (by decide) rfl (fun ls hl => ?_)
              refine lv_iload hx hb dX4_gainOf_127 (lv_at hl 0 rfl) ?_
              refine lv_if_eq (tgt := 139) hx hb dX4_gainOf_129 (by decide) (fun c0 => absurd c0 (by decide)) (fun _ => ?_)
              refine lv_iload hx hb dX4_gainOf_132 (lv_at hl 1 rfl) ?_
              refine lv_iconst (v := 1) hx hb dX4_gainOf_134 (by decide) ?_
              refine lv_isub hx hb dX4_gainOf_135 ?_
              refine lv_goto (tgt := 141) hx hb dX4_gainOf_136 (by decide) ?_
              exact hend (((3 : Int32) - (1 : Int32)), a_57.2) H locs _ _ hf hP hS dX4_gainOf_141
            · replace hf := if_t c_61 hf
              refine lv_iload hx hb dX4_gainOf_118 (lv_at hl 2 rfl) ?_
              refine lv_goto (tgt := 125) hx hb dX4_gainOf_120 (by decide) ?_
              refine lv_istore (lv' := [(9, .int (1 : Int32)), (8, .int (3 : Int32)), (7, .int (1 : Int32)), (6, .int (1 : Int32)), (0, .ref (A 0)), (1, .int p1), (2, .int p2), (3, .int p3), (4, .int p4), (5, .int p5)]) hx hb dX4_gainOf_125 hl (by decide) rfl (fun ls hl => ?_)
              refine lv_iload hx hb dX4_gainOf_127 (lv_at hl 0 rfl) ?_
              refine lv_if_eq (tgt := 139) hx hb dX4_gainOf_129 (by decide) (fun c0 => absurd c0 (by decide)) (fun _ => ?_)
              refine lv_iload hx hb dX4_gainOf_132 (lv_at hl 1 rfl) ?_
              refine lv_iconst (v := 1) hx hb dX4_gainOf_134 (by decide) ?_
              refine lv_isub hx hb dX4_gainOf_135 ?_
              refine lv_goto (tgt := 141) hx hb dX4_gainOf_136 (by decide) ?_
              exact hend (((3 : Int32) - (1 : Int32)), a_57.2) H locs _ _ hf hP hS dX4_gainOf_141
          · replace hf := if_f c_60 hf
            refine lv_iconst (v := 0) hx hb dX4_gainOf_106 (by decide) ?_
            refine lv_goto (tgt := 111) hx hb dX4_gainOf_107 (by decide) ?_
            refine lv_istore (lv' := [(8, .int (0 : Int32)), (7, .int (1 : Int32)), (6, .int (1 : Int32)), (0, .ref (A 0)), (1, .int p1), (2, .int p2), (3, .int p3), (4, .int p4), (5, .int p5)]) hx hb dX4_gainOf_111 hl (by decide) rfl (fun ls hl => ?_)
            refine lv_iload_n hx hb dX4_gainOf_113 rfl (lv_at hl 4 rfl) ?_
            refine lv_iload_n hx hb dX4_gainOf_114 rfl (lv_at hl 5 rfl) ?_
            refine lv_icmp_ne (tgt := 123) hx hb dX4_gainOf_115 (by decide) (fun c_62 => ?_) (fun c_62 => ?_)
            · replace hf := if_f c_62 hf
              refine lv_iload hx hb dX4_gainOf_123 (lv_at hl 1 rfl) ?_
              refine lv_istore (lv' := [(9, .int (1 : Int32)), (8, .int (0 : Int32)), (7, .int (1 : Int32)), (6, .int (1 : Int32)), (0, .ref (A 0)), (1, .int p1), (2, .int p2), (3, .int p3), (4, .int p4), (5, .int p5)]) hx hb dX4_gainOf_125 hl (by decide) rfl (fun ls hl => ?_)
              refine lv_iload hx hb dX4_gainOf_127 (lv_at hl 0 rfl) ?_
              refine lv_if_eq (tgt := 139) hx hb dX4_gainOf_129 (by decide) (fun c0 => absurd c0 (by decide)) (fun _ => ?_)
              refine lv_iload hx hb dX4_gainOf_132 (lv_at hl 1 rfl) ?_
              refine lv_iconst (v := 1) hx hb dX4_gainOf_134 (by decide) ?_
              refine lv_isub hx hb dX4_gainOf_135 ?_
              refine lv_goto (tgt := 141) hx hb dX4_gainOf_136 (by decide) ?_
              exact hend (((0 : Int32) - (1 : Int32)), a_57.2) H locs _ _ hf hP hS dX4_gainOf_141
            · replace hf := if_t c_62 hf
              refine lv_iload hx hb dX4_gainOf_118 (lv_at hl 2 rfl) ?_
              refine lv_goto (tgt := 125) hx hb dX4_gainOf_120 (by decide) ?_
              refine lv_istore (lv' := [(9, .int (1 : Int32)), (8, .int (0 : Int32)), (7, .int (1 : Int32)), (6, .int (1 : Int32)), (0, .ref (A 0)), (1, .int p1), (2, .int p2), (3, .int p3), (4, .int p4), (5, .int p5)]) hx hb dX4_gainOf_125 hl (by decide) rfl (fun ls hl => ?_)
              refine lv_iload hx hb dX4_gainOf_127 (lv_at hl 0 rfl) ?_
              refine lv_if_eq (tgt := 139) hx hb dX4_gainOf_129 (by decide) (fun c0 => absurd c0 (by decide)) (fun _ => ?_)
              refine lv_iload hx hb dX4_gainOf_132 (lv_at hl 1 rfl) ?_
              refine lv_iconst (v := 1) hx hb dX4_gainOf_134 (by decide) ?_
              refine lv_isub hx hb dX4_gainOf_135 ?_
              refine lv_goto (tgt := 141) hx hb dX4_gainOf_136 (by decide) ?_
              exact hend (((0 : Int32) - (1 : Int32)), a_57.2) H locs _ _ hf hP hS dX4_gainOf_141

def rm_X4_isSettled : Room := { frames := 5, cells := 0, slots := 0, locals := 118 }
theorem hd_X4_isSettled : yX4_isSettled.cls = RX4 ∧ yX4_isSettled.cls ≠ "java/lang/invoke/MethodHandle" ∧ yX4_isSettled.cls ≠ "java/lang/invoke/VarHandle" ∧ (parseMethodDescriptor yX4_isSettled.desc).map (fun d => d.parameters.length) = some 4 := by decide +kernel
set_option maxRecDepth 100000 in
set_option maxHeartbeats 4000000 in
theorem c_X4_isSettled (l : Launch) (D : va_G) (cI : ClassId) (A : Nat → Nat) (n : St) (t : St) (k : St) (g : St) (w : St) (z : St) (q : St) (p1 : Int32) (p2 : Int32) (p3 : Int32) (p4 : Int32) (r : Int32 × St) (hf : f_X4_isSettled n t k g w z q p1 p2 p3 p4 = some r) : Ct l yX4_isSettled wsX4_isSettled rm_X4_isSettled D cI (cX cI A n t k g w z q) (cX cI A n r.2 k g w z q) [.ref (A 0), .int p1, .int p2, .int p3, .int p4] (some (.int r.1)) := by
  unfold f_X4_isSettled at hf
  obtain ⟨hz, hf⟩ := fzp_e hf
  refine Ct.ofZ hz (cc := cX4_isSettled) (maxL := 5) (by decide +kernel) rfl (Nat.le_of_ble_eq_true rfl) ?_
  intro p e s m args below meth c AA Q H locs ls hx hb hml hown hts hA hK hP hD hS hl hend0
  have hend : ∀ (r1 : Int32 × St) (H : Heap) (locs : List Loc) (pc : Nat) (ls : Array Slot), some r1 = some r → va_P D vwCl (cX cI A n r1.2 k g w z q) H → va_S AA s.heap H locs → decode cX4_isSettled pc = .ok (.ireturn, 1) → W p l e rm_X4_isSettled s m args below meth c H locs 0 0 Q (F0 m pc ls [.int r1.1]) := by
    intro r1 H locs pc ls e1 hP hS hd; cases e1; exact hend0 H locs pc ls hP hS hd
  clear hend0
  replace hl : lv_has ls 5 [(0, .ref (A 0)), (1, .int p1), (2, .int p2), (3, .int p3), (4, .int p4)] := hl
  refine lv_aload_n hx hb dX4_isSettled_0 rfl (lv_at hl 0 rfl) ?_
  refine lv_iload_n hx hb dX4_isSettled_1 rfl (lv_at hl 1 rfl) ?_
  refine lv_iload_n hx hb dX4_isSettled_2 rfl (lv_at hl 1 rfl) ?_
  refine lv_iload_n hx hb dX4_isSettled_3 rfl (lv_at hl 2 rfl) ?_
  refine lv_iload_n hx hb dX4_isSettled_4 rfl (lv_at hl 3 rfl) ?_
  refine lv_iload hx hb dX4_isSettled_5 (lv_at hl 4 rfl) ?_
  obtain ⟨a_1, ha_1, hf⟩ := bd_e hf
  refine Ct.callV (As := [.int p1, .int p1, .int p2, .int p3, .int p4]) (rest := []) (st1 := [.int a_1.1]) (c_X4_gainOf l D cI A n t k g w z q p1 p1 p2 p3 p4 a_1 ha_1) hx hb hml hown hts (cwV 5 hts gX4_isSettled_X4_gainOf rfl rfl rfl hd_X4_gainOf ⟨Nat.le_of_ble_eq_true rfl, Nat.le_of_ble_eq_true rfl⟩) (va_recv hK hP (ci := 4) (q0 := 0) rfl cX_at0) (Ln.id rfl) hA hK hP hD hS rfl hl.1 rfl rfl (Nat.le_of_ble_eq_true rfl) dX4_isSettled_7 (fun H locs hP hD hS => ?_)
  replace hP : va_P D vwCl (cX cI A n a_1.2 k g w z q) H := hP
  replace hD : va_D AA (cX cI A n a_1.2 k g w z q) := hD
  refine lv_aload_n hx hb dX4_isSettled_10 rfl (lv_at hl 0 rfl) ?_
  refine lv_iload_n hx hb dX4_isSettled_11 rfl (lv_at hl 1 rfl) ?_
  refine lv_iload_n hx hb dX4_isSettled_12 rfl (lv_at hl 1 rfl) ?_
  refine lv_iload_n hx hb dX4_isSettled_13 rfl (lv_at hl 2 rfl) ?_
  refine lv_iconst (v := 1) hx hb dX4_isSettled_14 (by decide) ?_
  refine lv_iload_n hx hb dX4_isSettled_15 rfl (lv_at hl 3 rfl) ?_
  refine lv_isub hx hb dX4_isSettled_16 ?_
  refine lv_iload hx hb dX4_isSettled_17 (lv_at hl 4 rfl) ?_
  obtain ⟨a_2, ha_2, hf⟩ := bd_e hf
  refine Ct.callV (As := [.int p1, .int p1, .int p2, .int ((1 : Int32) - p3), .int p4]) (rest := [.int a_1.1]) (st1 := [.int a_2.1, .int a_1.1]) (c_X4_gainOf l D cI A n a_1.2 k g w z q p1 p1 p2 ((1 : Int32) - p3) p4 a_2 ha_2) hx hb hml hown hts (cwV 5 hts gX4_isSettled_X4_gainOf rfl rfl rfl hd_X4_gainOf ⟨Nat.le_of_ble_eq_true rfl, Nat.le_of_ble_eq_true rfl⟩) (va_recv hK hP (ci := 4) (q0 := 0) rfl cX_at0) (Ln.id rfl) hA hK hP hD hS rfl hl.1 rfl rfl (Nat.le_of_ble_eq_true rfl) dX4_isSettled_19 (fun H locs hP hD hS => ?_)
  replace hP : va_P D vwCl (cX cI A n a_2.2 k g w z q) H := hP
  replace hD : va_D AA (cX cI A n a_2.2 k g w z q) := hD
  refine lv_icmp_lt (tgt := 54) hx hb dX4_isSettled_22 (by decide) (fun c_3 => ?_) (fun c_3 => ?_)
  · replace hf := if_t c_3 hf
    refine lv_iconst (v := 0) hx hb dX4_isSettled_54 (by decide) ?_
    exact hend ((0 : Int32), a_2.2) H locs _ _ hf hP hS dX4_isSettled_55
  · replace hf := if_f c_3 hf
    refine lv_aload_n hx hb dX4_isSettled_25 rfl (lv_at hl 0 rfl) ?_
    refine lv_iload_n hx hb dX4_isSettled_26 rfl (lv_at hl 2 rfl) ?_
    refine lv_iload_n hx hb dX4_isSettled_27 rfl (lv_at hl 1 rfl) ?_
    refine lv_iload_n hx hb dX4_isSettled_28 rfl (lv_at hl 2 rfl) ?_
    refine lv_iload_n hx hb dX4_isSettled_29 rfl (lv_at hl 3 rfl) ?_
    refine lv_iload hx hb dX4_isSettled_30 (lv_at hl 4 rfl) ?_
    obtain ⟨a_4, ha_4, hf⟩ := bd_e hf
    refine Ct.callV (As := [.int p2, .int p1, .int p2, .int p3, .int p4]) (rest := []) (st1 := [.int a_4.1]) (c_X4_gainOf l D cI A n a_2.2 k g w z q p2 p1 p2 p3 p4 a_4 ha_4) hx hb hml hown hts (cwV 5 hts gX4_isSettled_X4_gainOf rfl rfl rfl hd_X4_gainOf ⟨Nat.le_of_ble_eq_true rfl, Nat.le_of_ble_eq_true rfl⟩) (va_recv hK hP (ci := 4) (q0 := 0) rfl cX_at0) (Ln.id rfl) hA hK hP hD hS rfl hl.1 rfl rfl (Nat.le_of_ble_eq_true rfl) dX4_isSettled_32 (fun H locs hP hD hS => ?_)
    replace hP : va_P D vwCl (cX cI A n a_4.2 k g w z q) H := hP
    replace hD : va_D AA (cX cI A n a_4.2 k g w z q) := hD
    refine lv_aload_n hx hb dX4_isSettled_35 rfl (lv_at hl 0 rfl) ?_
    refine lv_iload_n hx hb dX4_isSettled_36 rfl (lv_at hl 2 rfl) ?_
    refine lv_iload_n hx hb dX4_isSettled_37 rfl (lv_at hl 1 rfl) ?_
    refine lv_iload_n hx hb dX4_isSettled_38 rfl (lv_at hl 2 rfl) ?_
    refine lv_iload_n hx hb dX4_isSettled_39 rfl (lv_at hl 3 rfl) ?_
    refine lv_iconst (v := 1) hx hb dX4_isSettled_40 (by decide) ?_
    refine lv_iload hx hb dX4_isSettled_41 (lv_at hl 4 rfl) ?_
    refine lv_isub hx hb dX4_isSettled_43 ?_
    obtain ⟨a_5, ha_5, hf⟩ := bd_e hf
    refine Ct.callV (As := [.int p2, .int p1, .int p2, .int p3, .int ((1 : Int32) - p4)]) (rest := [.int a_4.1]) (st1 := [.int a_5.1, .int a_4.1]) (c_X4_gainOf l D cI A n a_4.2 k g w z q p2 p1 p2 p3 ((1 : Int32) - p4) a_5 ha_5) hx hb hml hown hts (cwV 5 hts gX4_isSettled_X4_gainOf rfl rfl rfl hd_X4_gainOf ⟨Nat.le_of_ble_eq_true rfl, Nat.le_of_ble_eq_true rfl⟩) (va_recv hK hP (ci := 4) (q0 := 0) rfl cX_at0) (Ln.id rfl) hA hK hP hD hS rfl hl.1 rfl rfl (Nat.le_of_ble_eq_true rfl) dX4_isSettled_44 (fun H locs hP hD hS => ?_)
    replace hP : va_P D vwCl (cX cI A n a_5.2 k g w z q) H := hP
    replace hD : va_D AA (cX cI A n a_5.2 k g w z q) := hD
    refine lv_icmp_lt (tgt := 54) hx hb dX4_isSettled_47 (by decide) (fun c_6 => ?_) (fun c_6 => ?_)
    · replace hf := if_t c_6 hf
      refine lv_iconst (v := 0) hx hb dX4_isSettled_54 (by decide) ?_
      exact hend ((0 : Int32), a_5.2) H locs _ _ hf hP hS dX4_isSettled_55
    · replace hf := if_f c_6 hf
      refine lv_iconst (v := 1) hx hb dX4_isSettled_50 (by decide) ?_
      refine lv_goto (tgt := 55) hx hb dX4_isSettled_51 (by decide) ?_
      exact hend ((1 : Int32), a_5.2) H locs _ _ hf hP hS dX4_isSettled_55

def rm_X4_two : Room := { frames := 6, cells := 0, slots := 0, locals := 142 }
theorem hd_X4_two : yX4_two.cls = RX4 ∧ yX4_two.cls ≠ "java/lang/invoke/MethodHandle" ∧ yX4_two.cls ≠ "java/lang/invoke/VarHandle" ∧ (parseMethodDescriptor yX4_two.desc).map (fun d => d.parameters.length) = some 2 := by decide +kernel
set_option maxRecDepth 100000 in
set_option maxHeartbeats 4000000 in
theorem c_X4_two (l : Launch) (D : va_G) (cI : ClassId) (A : Nat → Nat) (n : St) (t : St) (k : St) (g : St) (w : St) (z : St) (q : St) (p1 : Int32) (p2 : Int32) (r : Int32 × St × St) (hf : f_X4_two n t k g w z q p1 p2 = some r) : Ct l yX4_two wsX4_two rm_X4_two D cI (cX cI A n t k g w z q) (cX cI A n r.2.1 k g w z r.2.2) [.ref (A 0), .int p1, .int p2] (some (.int r.1)) := by
  unfold f_X4_two at hf
  refine Ct.ofI (cc := cX4_two) (maxL := 5) (by decide +kernel) rfl (Nat.le_of_ble_eq_true rfl) ?_
  intro p e s m args below meth c AA Q H locs ls hx hb hml hown hts hA hK hP hD hS hl hend0
  have hend : ∀ (r1 : Int32 × St × St) (H : Heap) (locs : List Loc) (pc : Nat) (ls : Array Slot), some r1 = some r → va_P D vwCl (cX cI A n r1.2.1 k g w z r1.2.2) H → va_S AA s.heap H locs → decode cX4_two pc = .ok (.ireturn, 1) → W p l e rm_X4_two s m args below meth c H locs 0 0 Q (F0 m pc ls [.int r1.1]) := by
    intro r1 H locs pc ls e1 hP hS hd; cases e1; exact hend0 H locs pc ls hP hS hd
  clear hend0
  have hw4 : ∀ w ∈ wsX40, w ∈ wsX4_two := by decide +kernel
  have k10 := hts (.fieldLink RX4 10 "AnchorsForConfession" "now" "LAnchorsForConfession$Harbour;") (by decide +kernel)
  replace hl : lv_has ls 5 [(0, .ref (A 0)), (1, .int p1), (2, .int p2)] := hl
  refine lv_aload_n hx hb dX4_two_0 rfl (lv_at hl 0 rfl) ?_
  refine va_get (D := D) (ci := 4) (v := .ref (A 1)) (C := RX4) (T := TX4) (N := 8) hx hb hts hw4 hown hK hP 0 cX_at0 rfl 0 (by decide) k10 (fun _ h9 => h9) rfl dX4_two_1 ?_
  refine lv_iload_n hx hb dX4_two_4 rfl (lv_at hl 1 rfl) ?_
  obtain ⟨a_1, ha_1, hf⟩ := bd_e hf
  refine Ct.callV (As := [.int p1]) (rest := []) (st1 := [.int a_1]) (c_X0_hasMan l D cI (fun j => A (1 + j)) n p1 a_1 ha_1) hx hb hml hown hts (cwV 1 hts gX4_two_X0_hasMan rfl rfl rfl hd_X0_hasMan ⟨Nat.le_of_ble_eq_true rfl, Nat.le_of_ble_eq_true rfl⟩) (va_recv hK hP (ci := 0) (q0 := 1) rfl cX_at1) ln_X_H_n hA hK hP hD hS rfl hl.1 rfl rfl (Nat.le_of_ble_eq_true rfl) dX4_two_5 (fun H locs hP hD hS => ?_)
  refine lv_if_eq (tgt := 27) hx hb dX4_two_8 (by decide) (fun c_2 => ?_) (fun c_2 => ?_)
  · replace hf := if_t c_2 hf
    refine lv_aload_n hx hb dX4_two_27 rfl (lv_at hl 0 rfl) ?_
    refine lv_iconst (v := -1) hx hb dX4_two_28 (by decide) ?_
    obtain ⟨a_3, ha_3, hf⟩ := bd_e hf
    refine Ct.callV (As := [.int (-1 : Int32)]) (rest := []) (st1 := [.int a_3.1]) (c_X4_refused l D cI A n t k g w z q (-1 : Int32) a_3 ha_3) hx hb hml hown hts (cwV 1 hts gX4_two_X4_refused rfl rfl rfl hd_X4_refused ⟨Nat.le_of_ble_eq_true rfl, Nat.le_of_ble_eq_true rfl⟩) (va_recv hK hP (ci := 4) (q0 := 0) rfl cX_at0) (Ln.id rfl) hA hK hP hD hS rfl hl.1 rfl rfl (Nat.le_of_ble_eq_true rfl) dX4_two_29 (fun H locs hP hD hS => ?_)
    replace hP : va_P D vwCl (cX cI A n t k g w z a_3.2) H := hP
    replace hD : va_D AA (cX cI A n t k g w z a_3.2) := hD
    exact hend (a_3.1, t, a_3.2) H locs _ _ hf hP hS dX4_two_32
  · replace hf := if_f c_2 hf
    refine lv_aload_n hx hb dX4_two_11 rfl (lv_at hl 0 rfl) ?_
    refine va_get (D := D) (ci := 4) (v := .ref (A 1)) (C := RX4) (T := TX4) (N := 8) hx hb hts hw4 hown hK hP 0 cX_at0 rfl 0 (by decide) k10 (fun _ h9 => h9) rfl dX4_two_12 ?_
    refine lv_iload_n hx hb dX4_two_15 rfl (lv_at hl 2 rfl) ?_
    obtain ⟨a_4, ha_4, hf⟩ := bd_e hf
    refine Ct.callV (As := [.int p2]) (rest := []) (st1 := [.int a_4]) (c_X0_hasMan l D cI (fun j => A (1 + j)) n p2 a_4 ha_4) hx hb hml hown hts (cwV 1 hts gX4_two_X0_hasMan rfl rfl rfl hd_X0_hasMan ⟨Nat.le_of_ble_eq_true rfl, Nat.le_of_ble_eq_true rfl⟩) (va_recv hK hP (ci := 0) (q0 := 1) rfl cX_at1) ln_X_H_n hA hK hP hD hS rfl hl.1 rfl rfl (Nat.le_of_ble_eq_true rfl) dX4_two_16 (fun H locs hP hD hS => ?_)
    refine lv_if_eq (tgt := 27) hx hb dX4_two_19 (by decide) (fun c_5 => ?_) (fun c_5 => ?_)
    · replace hf := if_t c_5 hf
      refine lv_aload_n hx hb dX4_two_27 rfl (lv_at hl 0 rfl) ?_
      refine lv_iconst (v := -1) hx hb dX4_two_28 (by decide) ?_
      obtain ⟨a_6, ha_6, hf⟩ := bd_e hf
      refine Ct.callV (As := [.int (-1 : Int32)]) (rest := []) (st1 := [.int a_6.1]) (c_X4_refused l D cI A n t k g w z q (-1 : Int32) a_6 ha_6) hx hb hml hown hts (cwV 1 hts gX4_two_X4_refused rfl rfl rfl hd_X4_refused ⟨Nat.le_of_ble_eq_true rfl, Nat.le_of_ble_eq_true rfl⟩) (va_recv hK hP (ci := 4) (q0 := 0) rfl cX_at0) (Ln.id rfl) hA hK hP hD hS rfl hl.1 rfl rfl (Nat.le_of_ble_eq_true rfl) dX4_two_29 (fun H locs hP hD hS => ?_)
      replace hP : va_P D vwCl (cX cI A n t k g w z a_6.2) H := hP
      replace hD : va_D AA (cX cI A n t k g w z a_6.2) := hD
      exact hend (a_6.1, t, a_6.2) H locs _ _ hf hP hS dX4_two_32
    · replace hf := if_f c_5 hf
      refine lv_iload_n hx hb dX4_two_22 rfl (lv_at hl 1 rfl) ?_
      refine lv_iload_n hx hb dX4_two_23 rfl (lv_at hl 2 rfl) ?_
      refine lv_icmp_ne (tgt := 33) hx hb dX4_two_24 (by decide) (fun c_7 => ?_) (fun c_7 => ?_)
      · replace hf := if_f c_7 hf
        refine lv_aload_n hx hb dX4_two_33 rfl (lv_at hl 0 rfl) ?_
        refine va_get (D := D) (ci := 4) (v := .ref (A 1)) (C := RX4) (T := TX4) (N := 8) hx hb hts hw4 hown hK hP 0 cX_at0 rfl 0 (by decide) k10 (fun _ h9 => h9) rfl dX4_two_34 ?_
        refine lv_iload_n hx hb dX4_two_37 rfl (lv_at hl 1 rfl) ?_
        obtain ⟨a_8, ha_8, hf⟩ := bd_e hf
        refine Ct.callV (As := [.int p1]) (rest := []) (st1 := [.int a_8]) (c_X0_canTell l D cI (fun j => A (1 + j)) n p1 a_8 ha_8) hx hb hml hown hts (cwV 1 hts gX4_two_X0_canTell rfl rfl rfl hd_X0_canTell ⟨Nat.le_of_ble_eq_true rfl, Nat.le_of_ble_eq_true rfl⟩) (va_recv hK hP (ci := 0) (q0 := 1) rfl cX_at1) ln_X_H_n hA hK hP hD hS rfl hl.1 rfl rfl (Nat.le_of_ble_eq_true rfl) dX4_two_38 (fun H locs hP hD hS => ?_)
        refine lv_if_eq (tgt := 55) hx hb dX4_two_41 (by decide) (fun c_9 => ?_) (fun c_9 => ?_)
        · replace hf := if_t c_9 hf
          refine lv_aload_n hx hb dX4_two_55 rfl (lv_at hl 0 rfl) ?_
          refine lv_bipush (v := -3) hx hb dX4_two_56 (by decide +kernel) ?_
          obtain ⟨a_10, ha_10, hf⟩ := bd_e hf
          refine Ct.callV (As := [.int (-3 : Int32)]) (rest := []) (st1 := [.int a_10.1]) (c_X4_refused l D cI A n t k g w z q (-3 : Int32) a_10 ha_10) hx hb hml hown hts (cwV 1 hts gX4_two_X4_refused rfl rfl rfl hd_X4_refused ⟨Nat.le_of_ble_eq_true rfl, Nat.le_of_ble_eq_true rfl⟩) (va_recv hK hP (ci := 4) (q0 := 0) rfl cX_at0) (Ln.id rfl) hA hK hP hD hS rfl hl.1 rfl rfl (Nat.le_of_ble_eq_true rfl) dX4_two_58 (fun H locs hP hD hS => ?_)
          replace hP : va_P D vwCl (cX cI A n t k g w z a_10.2) H := hP
          replace hD : va_D AA (cX cI A n t k g w z a_10.2) := hD
          exact hend (a_10.1, t, a_10.2) H locs _ _ hf hP hS dX4_two_61
        · replace hf := if_f c_9 hf
          refine lv_aload_n hx hb dX4_two_44 rfl (lv_at hl 0 rfl) ?_
          refine va_get (D := D) (ci := 4) (v := .ref (A 1)) (C := RX4) (T := TX4) (N := 8) hx hb hts hw4 hown hK hP 0 cX_at0 rfl 0 (by decide) k10 (fun _ h9 => h9) rfl dX4_two_45 ?_
          refine lv_iload_n hx hb dX4_two_48 rfl (lv_at hl 2 rfl) ?_
          obtain ⟨a_11, ha_11, hf⟩ := bd_e hf
          refine Ct.callV (As := [.int p2]) (rest := []) (st1 := [.int a_11]) (c_X0_canTell l D cI (fun j => A (1 + j)) n p2 a_11 ha_11) hx hb hml hown hts (cwV 1 hts gX4_two_X0_canTell rfl rfl rfl hd_X0_canTell ⟨Nat.le_of_ble_eq_true rfl, Nat.le_of_ble_eq_true rfl⟩) (va_recv hK hP (ci := 0) (q0 := 1) rfl cX_at1) ln_X_H_n hA hK hP hD hS rfl hl.1 rfl rfl (Nat.le_of_ble_eq_true rfl) dX4_two_49 (fun H locs hP hD hS => ?_)
          refine lv_if_ne (tgt := 62) hx hb dX4_two_52 (by decide) (fun c_12 => ?_) (fun c_12 => ?_)
          · replace hf := if_f c_12 hf
            refine lv_iconst (v := 0) hx hb dX4_two_62 (by decide) ?_
            refine lv_istore_n (lv' := [(3, .int (0 : Int32)), (0, .ref (A 0)), (1, .int p1), (2, .int p2)]) hx hb dX4_two_63 rfl hl (by decide) rfl (fun ls hl => ?_)
            refine lp_ind (P := fun (q64 : Int32 × St) => ∀ (H : Heap) (locs : List Loc) (ls : Array Slot), va_P D vwCl (cX cI A n q64.2 k g w z q) H → va_D AA (cX cI A n q64.2 k g w z q) → va_S AA s.heap H locs → lv_has ls 5 [(0, .ref (A 0)), (1, .int p1), (2, .int p2), (3, .int q64.1)] → W p l e rm_X4_two s m args below meth c H locs 0 0 Q (F0 m 64 ls [])) hf ?_ H locs ls hP hD hS (lv_sub hl [1, 2, 3, 0] rfl)
            clear hf hP hD hS hl
            intro nx64 ih64 q64 hf H locs ls hP hD hS hl
            refine lv_iload_n hx hb dX4_two_64 rfl (lv_at hl 3 rfl) ?_
            refine lv_iconst (v := 1) hx hb dX4_two_65 (by decide) ?_
            refine lv_icmp_gt (tgt := 110) hx hb dX4_two_66 (by decide) (fun c_13 => ?_) (fun c_13 => ?_)
            · replace hf := if_t c_13 hf
              refine lv_bipush (v := -9) hx hb dX4_two_110 (by decide +kernel) ?_
              exact hend ((-9 : Int32), q64.2, q) H locs _ _ hf hP hS dX4_two_112
            · replace hf := if_f c_13 hf
              refine lv_iconst (v := 0) hx hb dX4_two_69 (by decide) ?_
              refine lv_istore (lv' := [(4, .int (0 : Int32)), (0, .ref (A 0)), (1, .int p1), (2, .int p2), (3, .int q64.1)]) hx hb dX4_two_70 hl (by decide) rfl (fun ls hl => ?_)
              refine lp_ind (P := fun (q72 : Int32 × St) => ∀ (H : Heap) (locs : List Loc) (ls : Array Slot), va_P D vwCl (cX cI A n q72.2 k g w z q) H → va_D AA (cX cI A n q72.2 k g w z q) → va_S AA s.heap H locs → lv_has ls 5 [(0, .ref (A 0)), (1, .int p1), (2, .int p2), (3, .int q64.1), (4, .int q72.1)] → W p l e rm_X4_two s m args below meth c H locs 0 0 Q (F0 m 72 ls [])) hf ?_ H locs ls hP hD hS (lv_sub hl [1, 2, 3, 4, 0] rfl)
              clear hf hP hD hS hl
              intro nx72 ih72 q72 hf H locs ls hP hD hS hl
              refine lv_iload hx hb dX4_two_72 (lv_at hl 4 rfl) ?_
              refine lv_iconst (v := 1) hx hb dX4_two_74 (by decide) ?_
              refine lv_icmp_gt (tgt := 104) hx hb dX4_two_75 (by decide) (fun c_14 => ?_) (fun c_14 => ?_)
              · replace hf := if_t c_14 hf
                obtain ⟨v_15, ev_15, hf⟩ := nq_e hf
                refine lv_iinc (v := v_15) (lv' := [(3, .int v_15), (0, .ref (A 0)), (1, .int p1), (2, .int p2), (4, .int q72.1)]) hx hb dX4_two_104 hl (k := 3) rfl (by rw [ev_15]; rfl) (by decide) rfl (fun ls hl => ?_)
                refine lv_goto (tgt := 64) hx hb dX4_two_107 (by decide) ?_
                exact ih64 (v_15, q72.2) hf H locs ls hP hD hS (lv_sub hl [1, 2, 3, 0] rfl)
              · replace hf := if_f c_14 hf
                refine lv_aload_n hx hb dX4_two_78 rfl (lv_at hl 0 rfl) ?_
                refine lv_iload_n hx hb dX4_two_79 rfl (lv_at hl 1 rfl) ?_
                refine lv_iload_n hx hb dX4_two_80 rfl (lv_at hl 2 rfl) ?_
                refine lv_iload_n hx hb dX4_two_81 rfl (lv_at hl 3 rfl) ?_
                refine lv_iload hx hb dX4_two_82 (lv_at hl 4 rfl) ?_
                obtain ⟨a_16, ha_16, hf⟩ := bd_e hf
                refine Ct.callV (As := [.int p1, .int p2, .int q64.1, .int q72.1]) (rest := []) (st1 := [.int a_16.1]) (c_X4_isSettled l D cI A n q72.2 k g w z q p1 p2 q64.1 q72.1 a_16 ha_16) hx hb hml hown hts (cwV 4 hts gX4_two_X4_isSettled rfl rfl rfl hd_X4_isSettled ⟨Nat.le_of_ble_eq_true rfl, Nat.le_of_ble_eq_true rfl⟩) (va_recv hK hP (ci := 4) (q0 := 0) rfl cX_at0) (Ln.id rfl) hA hK hP hD hS rfl hl.1 rfl rfl (Nat.le_of_ble_eq_true rfl) dX4_two_84 (fun H locs hP hD hS => ?_)
                replace hP : va_P D vwCl (cX cI A n a_16.2 k g w z q) H := hP
                replace hD : va_D AA (cX cI A n a_16.2 k g w z q) := hD
                refine lv_if_eq (tgt := 98) hx hb dX4_two_87 (by decide) (fun c_17 => ?_) (fun c_17 => ?_)
                · replace hf := if_t c_17 hf
                  obtain ⟨v_18, ev_18, hf⟩ := nq_e hf
                  refine lv_iinc (v := v_18) (lv' := [(4, .int v_18), (0, .ref (A 0)), (1, .int p1), (2, .int p2), (3, .int q64.1)]) hx hb dX4_two_98 hl (k := 4) rfl (by rw [ev_18]; rfl) (by decide) rfl (fun ls hl => ?_)
                  refine lv_goto (tgt := 72) hx hb dX4_two_101 (by decide) ?_
                  exact ih72 (v_18, a_16.2) hf H locs ls hP hD hS (lv_sub hl [1, 2, 3, 4, 0] rfl)
                · replace hf := if_f c_17 hf
                  refine lv_bipush (v := 10) hx hb dX4_two_90 (by decide +kernel) ?_
                  refine lv_iload_n hx hb dX4_two_92 rfl (lv_at hl 3 rfl) ?_
                  refine lv_imul hx hb dX4_two_93 ?_
                  refine lv_iload hx hb dX4_two_94 (lv_at hl 4 rfl) ?_
                  refine lv_iadd hx hb dX4_two_96 ?_
                  exact hend ((((10 : Int32) * q64.1) + q72.1), a_16.2, q) H locs _ _ hf hP hS dX4_two_97
          · replace hf := if_t c_12 hf
            refine lv_aload_n hx hb dX4_two_55 rfl (lv_at hl 0 rfl) ?_
            refine lv_bipush (v := -3) hx hb dX4_two_56 (by decide +kernel) ?_
            obtain ⟨a_19, ha_19, hf⟩ := bd_e hf
            refine Ct.callV (As := [.int (-3 : Int32)]) (rest := []) (st1 := [.int a_19.1]) (c_X4_refused l D cI A n t k g w z q (-3 : Int32) a_19 ha_19) hx hb hml hown hts (cwV 1 hts gX4_two_X4_refused rfl rfl rfl hd_X4_refused ⟨Nat.le_of_ble_eq_true rfl, Nat.le_of_ble_eq_true rfl⟩) (va_recv hK hP (ci := 4) (q0 := 0) rfl cX_at0) (Ln.id rfl) hA hK hP hD hS rfl hl.1 rfl rfl (Nat.le_of_ble_eq_true rfl) dX4_two_58 (fun H locs hP hD hS => ?_)
            replace hP : va_P D vwCl (cX cI A n t k g w z a_19.2) H := hP
            replace hD : va_D AA (cX cI A n t k g w z a_19.2) := hD
            exact hend (a_19.1, t, a_19.2) H locs _ _ hf hP hS dX4_two_61
      · replace hf := if_t c_7 hf
        refine lv_aload_n hx hb dX4_two_27 rfl (lv_at hl 0 rfl) ?_
        refine lv_iconst (v := -1) hx hb dX4_two_28 (by decide) ?_
        obtain ⟨a_20, ha_20, hf⟩ := bd_e hf
        refine Ct.callV (As := [.int (-1 : Int32)]) (rest := []) (st1 := [.int a_20.1]) (c_X4_refused l D cI A n t k g w z q (-1 : Int32) a_20 ha_20) hx hb hml hown hts (cwV 1 hts gX4_two_X4_refused rfl rfl rfl hd_X4_refused ⟨Nat.le_of_ble_eq_true rfl, Nat.le_of_ble_eq_true rfl⟩) (va_recv hK hP (ci := 4) (q0 := 0) rfl cX_at0) (Ln.id rfl) hA hK hP hD hS rfl hl.1 rfl rfl (Nat.le_of_ble_eq_true rfl) dX4_two_29 (fun H locs hP hD hS => ?_)
        replace hP : va_P D vwCl (cX cI A n t k g w z a_20.2) H := hP
        replace hD : va_D AA (cX cI A n t k g w z a_20.2) := hD
        exact hend (a_20.1, t, a_20.2) H locs _ _ hf hP hS dX4_two_32

def rm_X4_isOutBehind : Room := { frames := 4, cells := 0, slots := 0, locals := 85 }
theorem hd_X4_isOutBehind : yX4_isOutBehind.cls = RX4 ∧ yX4_isOutBehind.cls ≠ "java/lang/invoke/MethodHandle" ∧ yX4_isOutBehind.cls ≠ "java/lang/invoke/VarHandle" ∧ (parseMethodDescriptor yX4_isOutBehind.desc).map (fun d => d.parameters.length) = some 3 := by decide +kernel
set_option maxRecDepth 100000 in
set_option maxHeartbeats 4000000 in
theorem c_X4_isOutBehind (l : Launch) (D : va_G) (cI : ClassId) (A : Nat → Nat) (n : St) (t : St) (k : St) (g : St) (w : St) (z : St) (q : St) (p1 : Int32) (p2 : Int32) (p3 : Int32) (r : Int32 × St) (hf : f_X4_isOutBehind n t k g w z q p1 p2 p3 = some r) : Ct l yX4_isOutBehind wsX4_isOutBehind rm_X4_isOutBehind D cI (cX cI A n t k g w z q) (cX cI A n r.2 k g w z q) [.ref (A 0), .int p1, .int p2, .int p3] (some (.int r.1)) := by
  unfold f_X4_isOutBehind at hf
  obtain ⟨hz, hf⟩ := fzp_e hf
  refine Ct.ofZ hz (cc := cX4_isOutBehind) (maxL := 5) (by decide +kernel) rfl (Nat.le_of_ble_eq_true rfl) ?_
  intro p e s m args below meth c AA Q H locs ls hx hb hml hown hts hA hK hP hD hS hl hend0
  have hend : ∀ (r1 : Int32 × St) (H : Heap) (locs : List Loc) (pc : Nat) (ls : Array Slot), some r1 = some r → va_P D vwCl (cX cI A n r1.2 k g w z q) H → va_S AA s.heap H locs → decode cX4_isOutBehind pc = .ok (.ireturn, 1) → W p l e rm_X4_isOutBehind s m args below meth c H locs 0 0 Q (F0 m pc ls [.int r1.1]) := by
    intro r1 H locs pc ls e1 hP hS hd; cases e1; exact hend0 H locs pc ls hP hS hd
  clear hend0
  have hw4 : ∀ w ∈ wsX40, w ∈ wsX4_isOutBehind := by decide +kernel
  have k10 := hts (.fieldLink RX4 10 "AnchorsForConfession" "now" "LAnchorsForConfession$Harbour;") (by decide +kernel)
  have k16 := hts (.fieldLink RX4 16 "AnchorsForConfession" "thought" "LAnchorsForConfession$Harbour;") (by decide +kernel)
  replace hl : lv_has ls 5 [(0, .ref (A 0)), (1, .int p1), (2, .int p2), (3, .int p3)] := hl
  refine lv_aload_n hx hb dX4_isOutBehind_0 rfl (lv_at hl 0 rfl) ?_
  refine va_get (D := D) (ci := 4) (v := .ref (A 10)) (C := RX4) (T := TX4) (N := 8) hx hb hts hw4 hown hK hP 0 cX_at0 rfl 1 (by decide) k16 (fun _ h9 => h9) rfl dX4_isOutBehind_1 ?_
  refine lv_aload_n hx hb dX4_isOutBehind_4 rfl (lv_at hl 0 rfl) ?_
  refine va_get (D := D) (ci := 4) (v := .ref (A 1)) (C := RX4) (T := TX4) (N := 8) hx hb hts hw4 hown hK hP 0 cX_at0 rfl 0 (by decide) k10 (fun _ h9 => h9) rfl dX4_isOutBehind_5 ?_
  obtain ⟨a_1, ha_1, hf⟩ := bd_e hf
  refine Ct.callV (As := [.ref (A 1)]) (rest := []) (st1 := []) (c_X0_copyFrom l D cI (fun j => A (10 + j)) (fun j => A (1 + j)) t n a_1 ha_1) hx hb hml hown hts (cwV 1 hts gX4_isOutBehind_X0_copyFrom rfl rfl rfl hd_X0_copyFrom ⟨Nat.le_of_ble_eq_true rfl, Nat.le_of_ble_eq_true rfl⟩) (va_recv hK hP (ci := 0) (q0 := 10) rfl cX_at10) ln_X_HH_tn hA hK hP hD hS rfl hl.1 rfl rfl (Nat.le_of_ble_eq_true rfl) dX4_isOutBehind_8 (fun H locs hP hD hS => ?_)
  replace hP : va_P D vwCl (cX cI A n a_1 k g w z q) H := hP
  replace hD : va_D AA (cX cI A n a_1 k g w z q) := hD
  refine lv_iconst (v := 0) hx hb dX4_isOutBehind_11 (by decide) ?_
  refine lv_istore (lv' := [(4, .int (0 : Int32)), (0, .ref (A 0)), (1, .int p1), (2, .int p2), (3, .int p3)]) hx hb dX4_isOutBehind_12 hl (by decide) rfl (fun ls hl => ?_)
  refine lp_ind (P := fun (q14 : Int32 × St) => ∀ (H : Heap) (locs : List Loc) (ls : Array Slot), va_P D vwCl (cX cI A n q14.2 k g w z q) H → va_D AA (cX cI A n q14.2 k g w z q) → va_S AA s.heap H locs → lv_has ls 5 [(0, .ref (A 0)), (1, .int p1), (2, .int p2), (3, .int p3), (4, .int q14.1)] → W p l e rm_X4_isOutBehind s m args below meth c H locs 0 0 Q (F0 m 14 ls [])) hf ?_ H locs ls hP hD hS (lv_sub hl [1, 2, 3, 4, 0] rfl)
  clear hf hP hD hS hl
  intro nx14 ih14 q14 hf H locs ls hP hD hS hl
  refine lv_iload hx hb dX4_isOutBehind_14 (lv_at hl 4 rfl) ?_
  refine lv_iload_n hx hb dX4_isOutBehind_16 rfl (lv_at hl 2 rfl) ?_
  refine lv_icmp_ge (tgt := 50) hx hb dX4_isOutBehind_17 (by decide) (fun c_2 => ?_) (fun c_2 => ?_)
  · replace hf := if_t c_2 hf
    refine lv_aload_n hx hb dX4_isOutBehind_50 rfl (lv_at hl 0 rfl) ?_
    refine va_get (D := D) (ci := 4) (v := .ref (A 10)) (C := RX4) (T := TX4) (N := 8) hx hb hts hw4 hown hK hP 0 cX_at0 rfl 1 (by decide) k16 (fun _ h9 => h9) rfl dX4_isOutBehind_51 ?_
    refine lv_iload_n hx hb dX4_isOutBehind_54 rfl (lv_at hl 1 rfl) ?_
    obtain ⟨a_3, ha_3, hf⟩ := bd_e hf
    refine Ct.callV (As := [.int p1]) (rest := []) (st1 := [.int a_3]) (c_X0_isIn l D cI (fun j => A (10 + j)) q14.2 p1 a_3 ha_3) hx hb hml hown hts (cwV 1 hts gX4_isOutBehind_X0_isIn rfl rfl rfl hd_X0_isIn ⟨Nat.le_of_ble_eq_true rfl, Nat.le_of_ble_eq_true rfl⟩) (va_recv hK hP (ci := 0) (q0 := 10) rfl cX_at10) ln_X_H_t hA hK hP hD hS rfl hl.1 rfl rfl (Nat.le_of_ble_eq_true rfl) dX4_isOutBehind_55 (fun H locs hP hD hS => ?_)
    refine lv_if_ne (tgt := 65) hx hb dX4_isOutBehind_58 (by decide) (fun c_4 => ?_) (fun c_4 => ?_)
    · replace hf := if_f c_4 hf
      refine lv_iconst (v := 0) hx hb dX4_isOutBehind_65 (by decide) ?_
      exact hend ((0 : Int32), q14.2) H locs _ _ hf hP hS dX4_isOutBehind_66
    · replace hf := if_t c_4 hf
      refine lv_iconst (v := 1) hx hb dX4_isOutBehind_61 (by decide) ?_
      refine lv_goto (tgt := 66) hx hb dX4_isOutBehind_62 (by decide) ?_
      exact hend ((1 : Int32), q14.2) H locs _ _ hf hP hS dX4_isOutBehind_66
  · replace hf := if_f c_2 hf
    refine lv_iload_n hx hb dX4_isOutBehind_20 rfl (lv_at hl 3 rfl) ?_
    refine lv_iload hx hb dX4_isOutBehind_21 (lv_at hl 4 rfl) ?_
    refine lv_ishr hx hb dX4_isOutBehind_23 ?_
    refine lv_iconst (v := 1) hx hb dX4_isOutBehind_24 (by decide) ?_
    refine lv_iand hx hb dX4_isOutBehind_25 ?_
    refine lv_if_eq (tgt := 36) hx hb dX4_isOutBehind_26 (by decide) (fun c_5 => ?_) (fun c_5 => ?_)
    · replace hf := if_t c_5 hf
      refine lv_aload_n hx hb dX4_isOutBehind_36 rfl (lv_at hl 0 rfl) ?_
      refine va_get (D := D) (ci := 4) (v := .ref (A 10)) (C := RX4) (T := TX4) (N := 8) hx hb hts hw4 hown hK hP 0 cX_at0 rfl 1 (by decide) k16 (fun _ h9 => h9) rfl dX4_isOutBehind_37 ?_
      refine lv_iconst (v := 1) hx hb dX4_isOutBehind_40 (by decide) ?_
      obtain ⟨a_6, ha_6, hf⟩ := bd_e hf
      refine Ct.callV (As := [.int (1 : Int32)]) (rest := []) (st1 := []) (c_X0_passTides l D cI (fun j => A (10 + j)) q14.2 (1 : Int32) a_6 ha_6) hx hb hml hown hts (cwV 1 hts gX4_isOutBehind_X0_passTides rfl rfl rfl hd_X0_passTides ⟨Nat.le_of_ble_eq_true rfl, Nat.le_of_ble_eq_true rfl⟩) (va_recv hK hP (ci := 0) (q0 := 10) rfl cX_at10) ln_X_H_t hA hK hP hD hS rfl hl.1 rfl rfl (Nat.le_of_ble_eq_true rfl) dX4_isOutBehind_41 (fun H locs hP hD hS => ?_)
      replace hP : va_P D vwCl (cX cI A n a_6 k g w z q) H := hP
      replace hD : va_D AA (cX cI A n a_6 k g w z q) := hD
      obtain ⟨v_7, ev_7, hf⟩ := nq_e hf
      refine lv_iinc (v := v_7) (lv' := [(4, .int v_7), (0, .ref (A 0)), (1, .int p1), (2, .int p2), (3, .int p3)]) hx hb dX4_isOutBehind_44 hl (k := 4) rfl (by rw [ev_7]; rfl) (by decide) rfl (fun ls hl => ?_)
      refine lv_goto (tgt := 14) hx hb dX4_isOutBehind_47 (by decide) ?_
      exact ih14 (v_7, a_6) hf H locs ls hP hD hS (lv_sub hl [1, 2, 3, 4, 0] rfl)
    · replace hf := if_f c_5 hf
      refine lv_aload_n hx hb dX4_isOutBehind_29 rfl (lv_at hl 0 rfl) ?_
      refine va_get (D := D) (ci := 4) (v := .ref (A 10)) (C := RX4) (T := TX4) (N := 8) hx hb hts hw4 hown hK hP 0 cX_at0 rfl 1 (by decide) k16 (fun _ h9 => h9) rfl dX4_isOutBehind_30 ?_
      obtain ⟨a_8, ha_8, hf⟩ := bd_e hf
      refine Ct.callV (As := []) (rest := []) (st1 := []) (c_X0_storms l D cI (fun j => A (10 + j)) q14.2 a_8 ha_8) hx hb hml hown hts (cwV 0 hts gX4_isOutBehind_X0_storms rfl rfl rfl hd_X0_storms ⟨Nat.le_of_ble_eq_true rfl, Nat.le_of_ble_eq_true rfl⟩) (va_recv hK hP (ci := 0) (q0 := 10) rfl cX_at10) ln_X_H_t hA hK hP hD hS rfl hl.1 rfl rfl (Nat.le_of_ble_eq_true rfl) dX4_isOutBehind_33 (fun H locs hP hD hS => ?_)
      replace hP : va_P D vwCl (cX cI A n a_8 k g w z q) H := hP
      replace hD : va_D AA (cX cI A n a_8 k g w z q) := hD
      refine lv_aload_n hx hb dX4_isOutBehind_36 rfl (lv_at hl 0 rfl) ?_
      refine va_get (D := D) (ci := 4) (v := .ref (A 10)) (C := RX4) (T := TX4) (N := 8) hx hb hts hw4 hown hK hP 0 cX_at0 rfl 1 (by decide) k16 (fun _ h9 => h9) rfl dX4_isOutBehind_37 ?_
      refine lv_iconst (v := 1) hx hb dX4_isOutBehind_40 (by decide) ?_
      obtain ⟨a_9, ha_9, hf⟩ := bd_e hf
      refine Ct.callV (As := [.int (1 : Int32)]) (rest := []) (st1 := []) (c_X0_passTides l D cI (fun j => A (10 + j)) a_8 (1 : Int32) a_9 ha_9) hx hb hml hown hts (cwV 1 hts gX4_isOutBehind_X0_passTides rfl rfl rfl hd_X0_passTides ⟨Nat.le_of_ble_eq_true rfl, Nat.le_of_ble_eq_true rfl⟩) (va_recv hK hP (ci := 0) (q0 := 10) rfl cX_at10) ln_X_H_t hA hK hP hD hS rfl hl.1 rfl rfl (Nat.le_of_ble_eq_true rfl) dX4_isOutBehind_41 (fun H locs hP hD hS => ?_)
      replace hP : va_P D vwCl (cX cI A n a_9 k g w z q) H := hP
      replace hD : va_D AA (cX cI A n a_9 k g w z q) := hD
      obtain ⟨v_10, ev_10, hf⟩ := nq_e hf
      refine lv_iinc (v := v_10) (lv' := [(4, .int v_10), (0, .ref (A 0)), (1, .int p1), (2, .int p2), (3, .int p3)]) hx hb dX4_isOutBehind_44 hl (k := 4) rfl (by rw [ev_10]; rfl) (by decide) rfl (fun ls hl => ?_)
      refine lv_goto (tgt := 14) hx hb dX4_isOutBehind_47 (by decide) ?_
      exact ih14 (v_10, a_9) hf H locs ls hP hD hS (lv_sub hl [1, 2, 3, 4, 0] rfl)

def rm_X4_power : Room := { frames := 0, cells := 0, slots := 0, locals := 0 }
theorem hd_X4_power : yX4_power.cls ≠ "java/lang/invoke/MethodHandle" ∧ yX4_power.cls ≠ "java/lang/invoke/VarHandle" ∧ (parseMethodDescriptor yX4_power.desc).map (fun d => d.parameters.length) = some 2 := by decide +kernel
set_option maxRecDepth 100000 in
set_option maxHeartbeats 4000000 in
theorem c_X4_power (l : Launch) (D : va_G) (cI : ClassId) (p1 : Int64) (p2 : Int32) (r : Int64) (hf : f_X4_power p1 p2 = some r) : Ct l yX4_power wsX4_power rm_X4_power D cI [] [] [.long p1, .int p2] (some (.long r)) := by
  unfold f_X4_power at hf
  refine Ct.ofL (cc := cX4_power) (maxL := 6) (by decide +kernel) rfl (Nat.le_of_ble_eq_true rfl) ?_
  intro p e s m args below meth c AA Q H locs ls hx hb hml hown hts hA hK hP hD hS hl hend0
  have hend : ∀ (r1 : Int64) (H : Heap) (locs : List Loc) (pc : Nat) (ls : Array Slot), some r1 = some r → va_P D vwCl [] H → va_S AA s.heap H locs → decode cX4_power pc = .ok (.lreturn, 1) → W p l e rm_X4_power s m args below meth c H locs 0 0 Q (F0 m pc ls [.long r1]) := by
    intro r1 H locs pc ls e1 hP hS hd; cases e1; exact hend0 H locs pc ls hP hS hd
  clear hend0
  replace hl : lv_has ls 6 [(0, .long p1), (2, .int p2)] := hl
  refine lv_lconst (v := 1) hx hb dX4_power_0 (by decide) ?_
  refine lv_lstore_n (lv' := [(3, .long (1 : Int64)), (0, .long p1), (2, .int p2)]) hx hb dX4_power_1 rfl hl (by decide) rfl (fun ls hl => ?_)
  refine lv_iconst (v := 0) hx hb dX4_power_2 (by decide) ?_
  refine lv_istore (lv' := [(5, .int (0 : Int32)), (3, .long (1 : Int64)), (0, .long p1), (2, .int p2)]) hx hb dX4_power_3 hl (by decide) rfl (fun ls hl => ?_)
  refine lp_ind (P := fun (q5 : Int64 × Int32) => ∀ (H : Heap) (locs : List Loc) (ls : Array Slot), va_P D vwCl [] H → va_D AA [] → va_S AA s.heap H locs → lv_has ls 6 [(0, .long p1), (2, .int p2), (3, .long q5.1), (5, .int q5.2)] → W p l e rm_X4_power s m args below meth c H locs 0 0 Q (F0 m 5 ls [])) hf ?_ H locs ls hP hD hS (lv_sub hl [2, 3, 1, 0] rfl)
  clear hf hP hD hS hl
  intro nx5 ih5 q5 hf H locs ls hP hD hS hl
  refine lv_iload hx hb dX4_power_5 (lv_at hl 3 rfl) ?_
  refine lv_iload_n hx hb dX4_power_7 rfl (lv_at hl 1 rfl) ?_
  refine lv_icmp_ge (tgt := 21) hx hb dX4_power_8 (by decide) (fun c_1 => ?_) (fun c_1 => ?_)
  · replace hf := if_t c_1 hf
    refine lv_lload_n hx hb dX4_power_21 rfl (lv_at hl 2 rfl) ?_
    exact hend q5.1 H locs _ _ hf hP hS dX4_power_22
  · replace hf := if_f c_1 hf
    refine lv_lload_n hx hb dX4_power_11 rfl (lv_at hl 2 rfl) ?_
    refine lv_lload_n hx hb dX4_power_12 rfl (lv_at hl 0 rfl) ?_
    refine lv_lmul hx hb dX4_power_13 ?_
    refine lv_topl (fun v_2 ev_2 => ?_)
    replace hf := nm_at ev_2 hf
    refine lv_lstore_n (lv' := [(3, .long v_2), (0, .long p1), (2, .int p2), (5, .int q5.2)]) hx hb dX4_power_14 rfl hl (by decide) rfl (fun ls hl => ?_)
    obtain ⟨v_3, ev_3, hf⟩ := nq_e hf
    refine lv_iinc (v := v_3) (lv' := [(5, .int v_3), (3, .long v_2), (0, .long p1), (2, .int p2)]) hx hb dX4_power_15 hl (k := 3) rfl (by rw [ev_3]; rfl) (by decide) rfl (fun ls hl => ?_)
    refine lv_goto (tgt := 5) hx hb dX4_power_18 (by decide) ?_
    exact ih5 (v_2, v_3) hf H locs ls hP hD hS (lv_sub hl [2, 3, 1, 0] rfl)

def rm_X4_commonDivisor : Room := { frames := 0, cells := 0, slots := 0, locals := 0 }
theorem hd_X4_commonDivisor : yX4_commonDivisor.cls ≠ "java/lang/invoke/MethodHandle" ∧ yX4_commonDivisor.cls ≠ "java/lang/invoke/VarHandle" ∧ (parseMethodDescriptor yX4_commonDivisor.desc).map (fun d => d.parameters.length) = some 2 := by decide +kernel
set_option maxRecDepth 100000 in
set_option maxHeartbeats 4000000 in
theorem c_X4_commonDivisor (l : Launch) (D : va_G) (cI : ClassId) (p1 : Int64) (p2 : Int64) (r : Int64) (hf : f_X4_commonDivisor p1 p2 = some r) : Ct l yX4_commonDivisor wsX4_commonDivisor rm_X4_commonDivisor D cI [] [] [.long p1, .long p2] (some (.long r)) := by
  unfold f_X4_commonDivisor at hf
  refine Ct.ofL (cc := cX4_commonDivisor) (maxL := 7) (by decide +kernel) rfl (Nat.le_of_ble_eq_true rfl) ?_
  intro p e s m args below meth c AA Q H locs ls hx hb hml hown hts hA hK hP hD hS hl hend0
  have hend : ∀ (r1 : Int64) (H : Heap) (locs : List Loc) (pc : Nat) (ls : Array Slot), some r1 = some r → va_P D vwCl [] H → va_S AA s.heap H locs → decode cX4_commonDivisor pc = .ok (.lreturn, 1) → W p l e rm_X4_commonDivisor s m args below meth c H locs 0 0 Q (F0 m pc ls [.long r1]) := by
    intro r1 H locs pc ls e1 hP hS hd; cases e1; exact hend0 H locs pc ls hP hS hd
  clear hend0
  replace hl : lv_has ls 7 [(0, .long p1), (2, .long p2)] := hl
  refine lv_iconst (v := 0) hx hb dX4_commonDivisor_0 (by decide) ?_
  refine lv_istore (lv' := [(4, .int (0 : Int32)), (0, .long p1), (2, .long p2)]) hx hb dX4_commonDivisor_1 hl (by decide) rfl (fun ls hl => ?_)
  refine lp_ind (P := fun (q3 : Int64 × Int64 × Int32) => ∀ (H : Heap) (locs : List Loc) (ls : Array Slot), va_P D vwCl [] H → va_D AA [] → va_S AA s.heap H locs → lv_has ls 7 [(0, .long q3.1), (2, .long q3.2.1), (4, .int q3.2.2)] → W p l e rm_X4_commonDivisor s m args below meth c H locs 0 0 Q (F0 m 3 ls [])) hf ?_ H locs ls hP hD hS (lv_sub hl [1, 2, 0] rfl)
  clear hf hP hD hS hl
  intro nx3 ih3 q3 hf H locs ls hP hD hS hl
  refine lv_iload hx hb dX4_commonDivisor_3 (lv_at hl 2 rfl) ?_
  refine lv_sipush (v := 200) hx hb dX4_commonDivisor_5 (by decide +kernel) ?_
  refine lv_icmp_ge (tgt := 33) hx hb dX4_commonDivisor_8 (by decide) (fun c_1 => ?_) (fun c_1 => ?_)
  · replace hf := if_t c_1 hf
    refine lv_lload_n hx hb dX4_commonDivisor_33 rfl (lv_at hl 0 rfl) ?_
    exact hend q3.1 H locs _ _ hf hP hS dX4_commonDivisor_34
  · replace hf := if_f c_1 hf
    refine lv_lload_n hx hb dX4_commonDivisor_11 rfl (lv_at hl 1 rfl) ?_
    refine lv_lconst (v := 0) hx hb dX4_commonDivisor_12 (by decide) ?_
    refine W.lcmp hx hb dX4_commonDivisor_13 ?_
    refine lv_if_eq (tgt := 33) hx hb dX4_commonDivisor_14 (by decide) (fun c_2 => ?_) (fun c_2 => ?_)
    · replace hf := if_t c_2 hf
      refine lv_lload_n hx hb dX4_commonDivisor_33 rfl (lv_at hl 0 rfl) ?_
      exact hend q3.1 H locs _ _ hf hP hS dX4_commonDivisor_34
    · replace hf := if_f c_2 hf
      refine lv_lload_n hx hb dX4_commonDivisor_17 rfl (lv_at hl 0 rfl) ?_
      refine lv_lload_n hx hb dX4_commonDivisor_18 rfl (lv_at hl 1 rfl) ?_
      obtain ⟨c_3, hf⟩ := gd_e hf
      refine lv_lrem hx hb dX4_commonDivisor_19 c_3 ?_
      refine lv_topl (fun v_4 ev_4 => ?_)
      replace hf := nm_at ev_4 hf
      refine lv_lstore (lv' := [(5, .long v_4), (0, .long q3.1), (2, .long q3.2.1), (4, .int q3.2.2)]) hx hb dX4_commonDivisor_20 hl (by decide) rfl (fun ls hl => ?_)
      refine lv_lload_n hx hb dX4_commonDivisor_22 rfl (lv_at hl 2 rfl) ?_
      refine lv_lstore_n (lv' := [(0, .long q3.2.1), (5, .long v_4), (2, .long q3.2.1), (4, .int q3.2.2)]) hx hb dX4_commonDivisor_23 rfl hl (by decide) rfl (fun ls hl => ?_)
      refine lv_lload hx hb dX4_commonDivisor_24 (lv_at hl 1 rfl) ?_
      refine lv_lstore_n (lv' := [(2, .long v_4), (0, .long q3.2.1), (5, .long v_4), (4, .int q3.2.2)]) hx hb dX4_commonDivisor_26 rfl hl (by decide) rfl (fun ls hl => ?_)
      obtain ⟨v_5, ev_5, hf⟩ := nq_e hf
      refine lv_iinc (v := v_5) (lv' := [(4, .int v_5), (2, .long v_4), (0, .long q3.2.1), (5, .long v_4)]) hx hb dX4_commonDivisor_27 hl (k := 3) rfl (by rw [ev_5]; rfl) (by decide) rfl (fun ls hl => ?_)
      refine lv_goto (tgt := 3) hx hb dX4_commonDivisor_30 (by decide) ?_
      exact ih3 (q3.2.1, v_4, v_5) hf H locs ls hP hD hS (lv_sub hl [2, 1, 0] rfl)

def rm_X4_fraction : Room := { frames := 1, cells := 0, slots := 0, locals := 26 }
theorem hd_X4_fraction : yX4_fraction.cls ≠ "java/lang/invoke/MethodHandle" ∧ yX4_fraction.cls ≠ "java/lang/invoke/VarHandle" ∧ (parseMethodDescriptor yX4_fraction.desc).map (fun d => d.parameters.length) = some 3 := by decide +kernel
set_option maxRecDepth 100000 in
set_option maxHeartbeats 4000000 in
theorem c_X4_fraction (l : Launch) (D : va_G) (cI : ClassId) (p1 : Int64) (p2 : Int64) (p3 : Int32) (r : Int64) (hf : f_X4_fraction p1 p2 p3 = some r) : Ct l yX4_fraction wsX4_fraction rm_X4_fraction D cI [] [] [.long p1, .long p2, .int p3] (some (.long r)) := by
  unfold f_X4_fraction at hf
  refine Ct.ofL (cc := cX4_fraction) (maxL := 7) (by decide +kernel) rfl (Nat.le_of_ble_eq_true rfl) ?_
  intro p e s m args below meth c AA Q H locs ls hx hb hml hown hts hA hK hP hD hS hl hend0
  have hend : ∀ (r1 : Int64) (H : Heap) (locs : List Loc) (pc : Nat) (ls : Array Slot), some r1 = some r → va_P D vwCl [] H → va_S AA s.heap H locs → decode cX4_fraction pc = .ok (.lreturn, 1) → W p l e rm_X4_fraction s m args below meth c H locs 0 0 Q (F0 m pc ls [.long r1]) := by
    intro r1 H locs pc ls e1 hP hS hd; cases e1; exact hend0 H locs pc ls hP hS hd
  clear hend0
  replace hl : lv_has ls 7 [(0, .long p1), (2, .long p2), (4, .int p3)] := hl
  refine lv_lload_n hx hb dX4_fraction_0 rfl (lv_at hl 1 rfl) ?_
  refine lv_lload_n hx hb dX4_fraction_1 rfl (lv_at hl 0 rfl) ?_
  obtain ⟨a_1, ha_1, hf⟩ := bd_e hf
  refine Ct.callS (As := [.long p2, .long p1]) (rest := []) (st1 := [.long a_1]) (c_X4_commonDivisor l D cI  p2 p1 a_1 ha_1) hx hb hml hown hts (va_cwS 2 hts gX4_fraction_X4_commonDivisor rfl rfl rfl hd_X4_commonDivisor ⟨Nat.le_of_ble_eq_true rfl, Nat.le_of_ble_eq_true rfl⟩) (Ln.id rfl) hA hK hP hD hS rfl hl.1 rfl rfl (Nat.le_of_ble_eq_true rfl) dX4_fraction_2 (fun H locs hP hD hS => ?_)
  refine lv_lstore (lv' := [(5, .long a_1), (0, .long p1), (2, .long p2), (4, .int p3)]) hx hb dX4_fraction_5 hl (by decide) rfl (fun ls hl => ?_)
  refine lv_lload hx hb dX4_fraction_7 (lv_at hl 0 rfl) ?_
  refine lv_lconst (v := 0) hx hb dX4_fraction_9 (by decide) ?_
  refine W.lcmp hx hb dX4_fraction_10 ?_
  refine lv_if_ne (tgt := 18) hx hb dX4_fraction_11 (by decide) (fun c_2 => ?_) (fun c_2 => ?_)
  · replace hf := if_f c_2 hf
    refine lv_iload hx hb dX4_fraction_18 (lv_at hl 3 rfl) ?_
    refine lv_if_ne (tgt := 27) hx hb dX4_fraction_20 (by decide) (fun c_3 => ?_) (fun c_3 => ?_)
    · replace hf := if_f c_3 hf
      refine lv_lload_n hx hb dX4_fraction_27 rfl (lv_at hl 2 rfl) ?_
      refine lv_lload hx hb dX4_fraction_28 (lv_at hl 0 rfl) ?_
      obtain ⟨c_4, hf⟩ := gd_e hf
      refine lv_ldiv hx hb dX4_fraction_30 c_4 ?_
      exact hend (p2 / a_1) H locs _ _ hf hP hS dX4_fraction_31
    · replace hf := if_t c_3 hf
      refine lv_lload_n hx hb dX4_fraction_23 rfl (lv_at hl 1 rfl) ?_
      refine lv_goto (tgt := 28) hx hb dX4_fraction_24 (by decide) ?_
      refine lv_lload hx hb dX4_fraction_28 (lv_at hl 0 rfl) ?_
      obtain ⟨c_5, hf⟩ := gd_e hf
      refine lv_ldiv hx hb dX4_fraction_30 c_5 ?_
      exact hend (p1 / a_1) H locs _ _ hf hP hS dX4_fraction_31
  · replace hf := if_t c_2 hf
    refine lv_iload hx hb dX4_fraction_14 (lv_at hl 3 rfl) ?_
    refine lv_i2l (v := (p3).toInt64) hx hb dX4_fraction_16 rfl ?_
    exact hend (p3).toInt64 H locs _ _ hf hP hS dX4_fraction_17

def rm_X4_storm : Room := { frames := 5, cells := 0, slots := 0, locals := 109 }
theorem hd_X4_storm : yX4_storm.cls = RX4 ∧ yX4_storm.cls ≠ "java/lang/invoke/MethodHandle" ∧ yX4_storm.cls ≠ "java/lang/invoke/VarHandle" ∧ (parseMethodDescriptor yX4_storm.desc).map (fun d => d.parameters.length) = some 4 := by decide +kernel
set_option maxRecDepth 100000 in
set_option maxHeartbeats 4000000 in
theorem c_X4_storm (l : Launch) (D : va_G) (cI : ClassId) (A : Nat → Nat) (n : St) (t : St) (k : St) (g : St) (w : St) (z : St) (q : St) (p1 : Int32) (p2 : Int32) (p3 : Int32) (p4 : Int32) (r : Int64 × St × St) (hf : f_X4_storm n t k g w z q p1 p2 p3 p4 = some r) : Ct l yX4_storm wsX4_storm rm_X4_storm D cI (cX cI A n t k g w z q) (cX cI A n r.2.1 k g w z r.2.2) [.ref (A 0), .int p1, .int p2, .int p3, .int p4] (some (.long r.1)) := by
  unfold f_X4_storm at hf
  refine Ct.ofL (cc := cX4_storm) (maxL := 8) (by decide +kernel) rfl (Nat.le_of_ble_eq_true rfl) ?_
  intro p e s m args below meth c AA Q H locs ls hx hb hml hown hts hA hK hP hD hS hl hend0
  have hend : ∀ (r1 : Int64 × St × St) (H : Heap) (locs : List Loc) (pc : Nat) (ls : Array Slot), some r1 = some r → va_P D vwCl (cX cI A n r1.2.1 k g w z r1.2.2) H → va_S AA s.heap H locs → decode cX4_storm pc = .ok (.lreturn, 1) → W p l e rm_X4_storm s m args below meth c H locs 0 0 Q (F0 m pc ls [.long r1.1]) := by
    intro r1 H locs pc ls e1 hP hS hd; cases e1; exact hend0 H locs pc ls hP hS hd
  clear hend0
  have hw4 : ∀ w ∈ wsX40, w ∈ wsX4_storm := by decide +kernel
  have k10 := hts (.fieldLink RX4 10 "AnchorsForConfession" "now" "LAnchorsForConfession$Harbour;") (by decide +kernel)
  have kc193 := hts (.constantLong RX4 193 4000000000000000000) (by decide +kernel)
  replace hl : lv_has ls 8 [(0, .ref (A 0)), (1, .int p1), (2, .int p2), (3, .int p3), (4, .int p4)] := hl
  refine lv_aload_n hx hb dX4_storm_0 rfl (lv_at hl 0 rfl) ?_
  refine va_get (D := D) (ci := 4) (v := .ref (A 1)) (C := RX4) (T := TX4) (N := 8) hx hb hts hw4 hown hK hP 0 cX_at0 rfl 0 (by decide) k10 (fun _ h9 => h9) rfl dX4_storm_1 ?_
  refine lv_iload_n hx hb dX4_storm_4 rfl (lv_at hl 1 rfl) ?_
  obtain ⟨a_1, ha_1, hf⟩ := bd_e hf
  refine Ct.callV (As := [.int p1]) (rest := []) (st1 := [.int a_1]) (c_X0_hasShip l D cI (fun j => A (1 + j)) n p1 a_1 ha_1) hx hb hml hown hts (cwV 1 hts gX4_storm_X0_hasShip rfl rfl rfl hd_X0_hasShip ⟨Nat.le_of_ble_eq_true rfl, Nat.le_of_ble_eq_true rfl⟩) (va_recv hK hP (ci := 0) (q0 := 1) rfl cX_at1) ln_X_H_n hA hK hP hD hS rfl hl.1 rfl rfl (Nat.le_of_ble_eq_true rfl) dX4_storm_5 (fun H locs hP hD hS => ?_)
  refine lv_if_ne (tgt := 22) hx hb dX4_storm_8 (by decide) (fun c_2 => ?_) (fun c_2 => ?_)
  · replace hf := if_f c_2 hf
    refine lv_iload_n hx hb dX4_storm_22 rfl (lv_at hl 2 rfl) ?_
    refine lv_if_lt (tgt := 31) hx hb dX4_storm_23 (by decide) (fun c_3 => ?_) (fun c_3 => ?_)
    · replace hf := if_t c_3 hf
      refine lv_ldc2 (v := 4000000000000000000) hx hb hown kc193 dX4_storm_31 ?_
      refine lv_aload_n hx hb dX4_storm_34 rfl (lv_at hl 0 rfl) ?_
      refine lv_bipush (v := -4) hx hb dX4_storm_35 (by decide +kernel) ?_
      obtain ⟨a_4, ha_4, hf⟩ := bd_e hf
      refine Ct.callV (As := [.int (-4 : Int32)]) (rest := [.long (4000000000000000000 : Int64)]) (st1 := [.int a_4.1, .long (4000000000000000000 : Int64)]) (c_X4_refused l D cI A n t k g w z q (-4 : Int32) a_4 ha_4) hx hb hml hown hts (cwV 1 hts gX4_storm_X4_refused rfl rfl rfl hd_X4_refused ⟨Nat.le_of_ble_eq_true rfl, Nat.le_of_ble_eq_true rfl⟩) (va_recv hK hP (ci := 4) (q0 := 0) rfl cX_at0) (Ln.id rfl) hA hK hP hD hS rfl hl.1 rfl rfl (Nat.le_of_ble_eq_true rfl) dX4_storm_37 (fun H locs hP hD hS => ?_)
      replace hP : va_P D vwCl (cX cI A n t k g w z a_4.2) H := hP
      replace hD : va_D AA (cX cI A n t k g w z a_4.2) := hD
      refine lv_i2l (v := (a_4.1).toInt64) hx hb dX4_storm_40 rfl ?_
      refine lv_lsub hx hb dX4_storm_41 ?_
      exact hend (((4000000000000000000 : Int64) - (a_4.1).toInt64), t, a_4.2) H locs _ _ hf hP hS dX4_storm_42
    · replace hf := if_f c_3 hf
      refine lv_iload_n hx hb dX4_storm_26 rfl (lv_at hl 3 rfl) ?_
      refine lv_iconst (v := 2) hx hb dX4_storm_27 (by decide) ?_
      refine lv_icmp_ge (tgt := 43) hx hb dX4_storm_28 (by decide) (fun c_5 => ?_) (fun c_5 => ?_)
      · replace hf := if_t c_5 hf
        refine lv_iload_n hx hb dX4_storm_43 rfl (lv_at hl 2 rfl) ?_
        refine lv_bipush (v := 7) hx hb dX4_storm_44 (by decide +kernel) ?_
        refine lv_icmp_gt (tgt := 55) hx hb dX4_storm_46 (by decide) (fun c_6 => ?_) (fun c_6 => ?_)
        · replace hf := if_t c_6 hf
          refine lv_ldc2 (v := 4000000000000000000) hx hb hown kc193 dX4_storm_55 ?_
          refine lv_aload_n hx hb dX4_storm_58 rfl (lv_at hl 0 rfl) ?_
          refine lv_bipush (v := -6) hx hb dX4_storm_59 (by decide +kernel) ?_
          obtain ⟨a_7, ha_7, hf⟩ := bd_e hf
          refine Ct.callV (As := [.int (-6 : Int32)]) (rest := [.long (4000000000000000000 : Int64)]) (st1 := [.int a_7.1, .long (4000000000000000000 : Int64)]) (c_X4_refused l D cI A n t k g w z q (-6 : Int32) a_7 ha_7) hx hb hml hown hts (cwV 1 hts gX4_storm_X4_refused rfl rfl rfl hd_X4_refused ⟨Nat.le_of_ble_eq_true rfl, Nat.le_of_ble_eq_true rfl⟩) (va_recv hK hP (ci := 4) (q0 := 0) rfl cX_at0) (Ln.id rfl) hA hK hP hD hS rfl hl.1 rfl rfl (Nat.le_of_ble_eq_true rfl) dX4_storm_61 (fun H locs hP hD hS => ?_)
          replace hP : va_P D vwCl (cX cI A n t k g w z a_7.2) H := hP
          replace hD : va_D AA (cX cI A n t k g w z a_7.2) := hD
          refine lv_i2l (v := (a_7.1).toInt64) hx hb dX4_storm_64 rfl ?_
          refine lv_lsub hx hb dX4_storm_65 ?_
          exact hend (((4000000000000000000 : Int64) - (a_7.1).toInt64), t, a_7.2) H locs _ _ hf hP hS dX4_storm_66
        · replace hf := if_f c_6 hf
          refine lv_iload_n hx hb dX4_storm_49 rfl (lv_at hl 3 rfl) ?_
          refine lv_bipush (v := 20) hx hb dX4_storm_50 (by decide +kernel) ?_
          refine lv_icmp_le (tgt := 67) hx hb dX4_storm_52 (by decide) (fun c_8 => ?_) (fun c_8 => ?_)
          · replace hf := if_t c_8 hf
            refine lv_iload hx hb dX4_storm_67 (lv_at hl 4 rfl) ?_
            refine lv_if_eq (tgt := 90) hx hb dX4_storm_69 (by decide) (fun c_9 => ?_) (fun c_9 => ?_)
            · replace hf := if_t c_9 hf
              refine lv_lconst (v := 0) hx hb dX4_storm_90 (by decide) ?_
              refine lv_lstore (lv' := [(5, .long (0 : Int64)), (0, .ref (A 0)), (1, .int p1), (2, .int p2), (3, .int p3), (4, .int p4)]) hx hb dX4_storm_91 hl (by decide) rfl (fun ls hl => ?_)
              refine lv_iconst (v := 0) hx hb dX4_storm_93 (by decide) ?_
              refine lv_istore (lv' := [(7, .int (0 : Int32)), (5, .long (0 : Int64)), (0, .ref (A 0)), (1, .int p1), (2, .int p2), (3, .int p3), (4, .int p4)]) hx hb dX4_storm_94 hl (by decide) rfl (fun ls hl => ?_)
              refine lp_ind (P := fun (q96 : Int64 × Int32 × St) => ∀ (H : Heap) (locs : List Loc) (ls : Array Slot), va_P D vwCl (cX cI A n q96.2.2 k g w z q) H → va_D AA (cX cI A n q96.2.2 k g w z q) → va_S AA s.heap H locs → lv_has ls 8 [(0, .ref (A 0)), (1, .int p1), (2, .int p2), (3, .int p3), (4, .int p4), (5, .long q96.1), (7, .int q96.2.1)] → W p l e rm_X4_storm s m args below meth c H locs 0 0 Q (F0 m 96 ls [])) hf ?_ H locs ls hP hD hS (lv_sub hl [2, 3, 4, 5, 6, 1, 0] rfl)
              clear hf hP hD hS hl
              intro nx96 ih96 q96 hf H locs ls hP hD hS hl
              refine lv_iload hx hb dX4_storm_96 (lv_at hl 6 rfl) ?_
              refine lv_iconst (v := 1) hx hb dX4_storm_98 (by decide) ?_
              refine lv_iload_n hx hb dX4_storm_99 rfl (lv_at hl 2 rfl) ?_
              refine lv_ishl hx hb dX4_storm_100 ?_
              refine lv_icmp_ge (tgt := 140) hx hb dX4_storm_101 (by decide) (fun c_10 => ?_) (fun c_10 => ?_)
              · replace hf := if_t c_10 hf
                refine lv_lload hx hb dX4_storm_140 (lv_at hl 5 rfl) ?_
                refine lv_iload_n hx hb dX4_storm_142 rfl (lv_at hl 3 rfl) ?_
                refine lv_i2l (v := (p3).toInt64) hx hb dX4_storm_143 rfl ?_
                refine lv_iload_n hx hb dX4_storm_144 rfl (lv_at hl 2 rfl) ?_
                obtain ⟨a_11, ha_11, hf⟩ := bd_e hf
                refine Ct.callS (As := [.long (p3).toInt64, .int p2]) (rest := [.long q96.1]) (st1 := [.long a_11, .long q96.1]) (c_X4_power l D cI  (p3).toInt64 p2 a_11 ha_11) hx hb hml hown hts (va_cwS 2 hts gX4_storm_X4_power rfl rfl rfl hd_X4_power ⟨Nat.le_of_ble_eq_true rfl, Nat.le_of_ble_eq_true rfl⟩) Ln.nil hA hK hP hD hS rfl hl.1 rfl rfl (Nat.le_of_ble_eq_true rfl) dX4_storm_145 (fun H locs hP hD hS => ?_)
                refine lv_iload hx hb dX4_storm_148 (lv_at hl 4 rfl) ?_
                obtain ⟨a_12, ha_12, hf⟩ := bd_e hf
                refine Ct.callS (As := [.long q96.1, .long a_11, .int p4]) (rest := []) (st1 := [.long a_12]) (c_X4_fraction l D cI  q96.1 a_11 p4 a_12 ha_12) hx hb hml hown hts (va_cwS 3 hts gX4_storm_X4_fraction rfl rfl rfl hd_X4_fraction ⟨Nat.le_of_ble_eq_true rfl, Nat.le_of_ble_eq_true rfl⟩) Ln.nil hA hK hP hD hS rfl hl.1 rfl rfl (Nat.le_of_ble_eq_true rfl) dX4_storm_150 (fun H locs hP hD hS => ?_)
                exact hend (a_12, q96.2.2, q) H locs _ _ hf hP hS dX4_storm_153
              · replace hf := if_f c_10 hf
                refine lv_aload_n hx hb dX4_storm_104 rfl (lv_at hl 0 rfl) ?_
                refine lv_iload_n hx hb dX4_storm_105 rfl (lv_at hl 1 rfl) ?_
                refine lv_iload_n hx hb dX4_storm_106 rfl (lv_at hl 2 rfl) ?_
                refine lv_iload hx hb dX4_storm_107 (lv_at hl 6 rfl) ?_
                obtain ⟨a_13, ha_13, hf⟩ := bd_e hf
                refine Ct.callV (As := [.int p1, .int p2, .int q96.2.1]) (rest := []) (st1 := [.int a_13.1]) (c_X4_isOutBehind l D cI A n q96.2.2 k g w z q p1 p2 q96.2.1 a_13 ha_13) hx hb hml hown hts (cwV 3 hts gX4_storm_X4_isOutBehind rfl rfl rfl hd_X4_isOutBehind ⟨Nat.le_of_ble_eq_true rfl, Nat.le_of_ble_eq_true rfl⟩) (va_recv hK hP (ci := 4) (q0 := 0) rfl cX_at0) (Ln.id rfl) hA hK hP hD hS rfl hl.1 rfl rfl (Nat.le_of_ble_eq_true rfl) dX4_storm_109 (fun H locs hP hD hS => ?_)
                replace hP : va_P D vwCl (cX cI A n a_13.2 k g w z q) H := hP
                replace hD : va_D AA (cX cI A n a_13.2 k g w z q) := hD
                refine lv_if_eq (tgt := 134) hx hb dX4_storm_112 (by decide) (fun c_14 => ?_) (fun c_14 => ?_)
                · replace hf := if_t c_14 hf
                  obtain ⟨v_15, ev_15, hf⟩ := nq_e hf
                  refine lv_iinc (v := v_15) (lv' := [(7, .int v_15), (0, .ref (A 0)), (1, .int p1), (2, .int p2), (3, .int p3), (4, .int p4), (5, .long q96.1)]) hx hb dX4_storm_134 hl (k := 6) rfl (by rw [ev_15]; rfl) (by decide) rfl (fun ls hl => ?_)
                  refine lv_goto (tgt := 96) hx hb dX4_storm_137 (by decide) ?_
                  exact ih96 (q96.1, v_15, a_13.2) hf H locs ls hP hD hS (lv_sub hl [1, 2, 3, 4, 5, 6, 0] rfl)
                · replace hf := if_f c_14 hf
                  refine lv_lload hx hb dX4_storm_115 (lv_at hl 5 rfl) ?_
                  refine lv_iload_n hx hb dX4_storm_117 rfl (lv_at hl 3 rfl) ?_
                  refine lv_iconst (v := 1) hx hb dX4_storm_118 (by decide) ?_
                  refine lv_isub hx hb dX4_storm_119 ?_
                  refine lv_i2l (v := ((p3 - (1 : Int32))).toInt64) hx hb dX4_storm_120 rfl ?_
                  refine lv_iload_n hx hb dX4_storm_121 rfl (lv_at hl 2 rfl) ?_
                  refine lv_iload hx hb dX4_storm_122 (lv_at hl 6 rfl) ?_
                  obtain ⟨a_16, ha_16, hf⟩ := bd_e hf
                  refine Ct.callS (As := [.int q96.2.1]) (rest := [.int p2, .long ((p3 - (1 : Int32))).toInt64, .long q96.1]) (st1 := [.int a_16, .int p2, .long ((p3 - (1 : Int32))).toInt64, .long q96.1]) (c_J6_bitCount_0f7a4 l D cI  q96.2.1 a_16 ha_16) hx hb hml hown hts (va_cwS 1 hts gX4_storm_J6_bitCount_0f7a4 rfl rfl rfl hd_J6_bitCount_0f7a4 ⟨Nat.le_of_ble_eq_true rfl, Nat.le_of_ble_eq_true rfl⟩) Ln.nil hA hK hP hD hS rfl hl.1 rfl rfl (Nat.le_of_ble_eq_true rfl) dX4_storm_124 (fun H locs hP hD hS => ?_)
                  refine lv_isub hx hb dX4_storm_127 ?_
                  obtain ⟨a_17, ha_17, hf⟩ := bd_e hf
                  refine Ct.callS (As := [.long ((p3 - (1 : Int32))).toInt64, .int (p2 - a_16)]) (rest := [.long q96.1]) (st1 := [.long a_17, .long q96.1]) (c_X4_power l D cI  ((p3 - (1 : Int32))).toInt64 (p2 - a_16) a_17 ha_17) hx hb hml hown hts (va_cwS 2 hts gX4_storm_X4_power rfl rfl rfl hd_X4_power ⟨Nat.le_of_ble_eq_true rfl, Nat.le_of_ble_eq_true rfl⟩) Ln.nil hA hK hP hD hS rfl hl.1 rfl rfl (Nat.le_of_ble_eq_true rfl) dX4_storm_128 (fun H locs hP hD hS => ?_)
                  refine lv_ladd hx hb dX4_storm_131 ?_
                  refine lv_topl (fun v_18 ev_18 => ?_)
                  replace hf := nm_at ev_18 hf
                  refine lv_lstore (lv' := [(5, .long v_18), (0, .ref (A 0)), (1, .int p1), (2, .int p2), (3, .int p3), (4, .int p4), (7, .int q96.2.1)]) hx hb dX4_storm_132 hl (by decide) rfl (fun ls hl => ?_)
                  obtain ⟨v_19, ev_19, hf⟩ := nq_e hf
                  refine lv_iinc (v := v_19) (lv' := [(7, .int v_19), (5, .long v_18), (0, .ref (A 0)), (1, .int p1), (2, .int p2), (3, .int p3), (4, .int p4)]) hx hb dX4_storm_134 hl (k := 6) rfl (by rw [ev_19]; rfl) (by decide) rfl (fun ls hl => ?_)
                  refine lv_goto (tgt := 96) hx hb dX4_storm_137 (by decide) ?_
                  exact ih96 (v_18, v_19, a_13.2) hf H locs ls hP hD hS (lv_sub hl [2, 3, 4, 5, 6, 1, 0] rfl)
            · replace hf := if_f c_9 hf
              refine lv_iload hx hb dX4_storm_72 (lv_at hl 4 rfl) ?_
              refine lv_iconst (v := 1) hx hb dX4_storm_74 (by decide) ?_
              refine lv_icmp_eq (tgt := 90) hx hb dX4_storm_75 (by decide) (fun c_20 => ?_) (fun c_20 => ?_)
              · replace hf := if_t c_20 hf
                refine lv_lconst (v := 0) hx hb dX4_storm_90 (by decide) ?_
                refine lv_lstore (lv' := [(5, .long (0 : Int64)), (0, .ref (A 0)), (1, .int p1), (2, .int p2), (3, .int p3), (4, .int p4)]) hx hb dX4_storm_91 hl (by decide) rfl (fun ls hl => ?_)
                refine lv_iconst (v := 0) hx hb dX4_storm_93 (by decide) ?_
                refine lv_istore (lv' := [(7, .int (0 : Int32)), (5, .long (0 : Int64)), (0, .ref (A 0)), (1, .int p1), (2, .int p2), (3, .int p3), (4, .int p4)]) hx hb dX4_storm_94 hl (by decide) rfl (fun ls hl => ?_)
                refine lp_ind (P := fun (q96 : Int64 × Int32 × St) => ∀ (H : Heap) (locs : List Loc) (ls : Array Slot), va_P D vwCl (cX cI A n q96.2.2 k g w z q) H → va_D AA (cX cI A n q96.2.2 k g w z q) → va_S AA s.heap H locs → lv_has ls 8 [(0, .ref (A 0)), (1, .int p1), (2, .int p2), (3, .int p3), (4, .int p4), (5, .long q96.1), (7, .int q96.2.1)] → W p l e rm_X4_storm s m args below meth c H locs 0 0 Q (F0 m 96 ls [])) hf ?_ H locs ls hP hD hS (lv_sub hl [2, 3, 4, 5, 6, 1, 0] rfl)
                clear hf hP hD hS hl
                intro nx96 ih96 q96 hf H locs ls hP hD hS hl
                refine lv_iload hx hb dX4_storm_96 (lv_at hl 6 rfl) ?_
                refine lv_iconst (v := 1) hx hb dX4_storm_98 (by decide) ?_
                refine lv_iload_n hx hb dX4_storm_99 rfl (lv_at hl 2 rfl) ?_
                refine lv_ishl hx hb dX4_storm_100 ?_
                refine lv_icmp_ge (tgt := 140) hx hb dX4_storm_101 (by decide) (fun c_21 => ?_) (fun c_21 => ?_)
                · replace hf := if_t c_21 hf
                  refine lv_lload hx hb dX4_storm_140 (lv_at hl 5 rfl) ?_
                  refine lv_iload_n hx hb dX4_storm_142 rfl (lv_at hl 3 rfl) ?_
                  refine lv_i2l (v := (p3).toInt64) hx hb dX4_storm_143 rfl ?_
                  refine lv_iload_n hx hb dX4_storm_144 rfl (lv_at hl 2 rfl) ?_
                  obtain ⟨a_22, ha_22, hf⟩ := bd_e hf
                  refine Ct.callS (As := [.long (p3).toInt64, .int p2]) (rest := [.long q96.1]) (st1 := [.long a_22, .long q96.1]) (c_X4_power l D cI  (p3).toInt64 p2 a_22 ha_22) hx hb hml hown hts (va_cwS 2 hts gX4_storm_X4_power rfl rfl rfl hd_X4_power ⟨Nat.le_of_ble_eq_true rfl, Nat.le_of_ble_eq_true rfl⟩) Ln.nil hA hK hP hD hS rfl hl.1 rfl rfl (Nat.le_of_ble_eq_true rfl) dX4_storm_145 (fun H locs hP hD hS => ?_)
                  refine lv_iload hx hb dX4_storm_148 (lv_at hl 4 rfl) ?_
                  obtain ⟨a_23, ha_23, hf⟩ := bd_e hf
                  refine Ct.callS (As := [.long q96.1, .long a_22, .int p4]) (rest := []) (st1 := [.long a_23]) (c_X4_fraction l D cI  q96.1 a_22 p4 a_23 ha_23) hx hb hml hown hts (va_cwS 3 hts gX4_storm_X4_fraction rfl rfl rfl hd_X4_fraction ⟨Nat.le_of_ble_eq_true rfl, Nat.le_of_ble_eq_true rfl⟩) Ln.nil hA hK hP hD hS rfl hl.1 rfl rfl (Nat.le_of_ble_eq_true rfl) dX4_storm_150 (fun H locs hP hD hS => ?_)
                  exact hend (a_23, q96.2.2, q) H locs _ _ hf hP hS dX4_storm_153
                · replace hf := if_f c_21 hf
                  refine lv_aload_n hx hb dX4_storm_104 rfl (lv_at hl 0 rfl) ?_
                  refine lv_iload_n hx hb dX4_storm_105 rfl (lv_at hl 1 rfl) ?_
                  refine lv_iload_n hx hb dX4_storm_106 rfl (lv_at hl 2 rfl) ?_
                  refine lv_iload hx hb dX4_storm_107 (lv_at hl 6 rfl) ?_
                  obtain ⟨a_24, ha_24, hf⟩ := bd_e hf
                  refine Ct.callV (As := [.int p1, .int p2, .int q96.2.1]) (rest := []) (st1 := [.int a_24.1]) (c_X4_isOutBehind l D cI A n q96.2.2 k g w z q p1 p2 q96.2.1 a_24 ha_24) hx hb hml hown hts (cwV 3 hts gX4_storm_X4_isOutBehind rfl rfl rfl hd_X4_isOutBehind ⟨Nat.le_of_ble_eq_true rfl, Nat.le_of_ble_eq_true rfl⟩) (va_recv hK hP (ci := 4) (q0 := 0) rfl cX_at0) (Ln.id rfl) hA hK hP hD hS rfl hl.1 rfl rfl (Nat.le_of_ble_eq_true rfl) dX4_storm_109 (fun H locs hP hD hS => ?_)
                  replace hP : va_P D vwCl (cX cI A n a_24.2 k g w z q) H := hP
                  replace hD : va_D AA (cX cI A n a_24.2 k g w z q) := hD
                  refine lv_if_eq (tgt := 134) hx hb dX4_storm_112 (by decide) (fun c_25 => ?_) (fun c_25 => ?_)
                  · replace hf := if_t c_25 hf
                    obtain ⟨v_26, ev_26, hf⟩ := nq_e hf
                    refine lv_iinc (v := v_26) (lv' := [(7, .int v_26), (0, .ref (A 0)), (1, .int p1), (2, .int p2), (3, .int p3), (4, .int p4), (5, .long q96.1)]) hx hb dX4_storm_134 hl (k := 6) rfl (by rw [ev_26]; rfl) (by decide) rfl (fun ls hl => ?_)
                    refine lv_goto (tgt := 96) hx hb dX4_storm_137 (by decide) ?_
                    exact ih96 (q96.1, v_26, a_24.2) hf H locs ls hP hD hS (lv_sub hl [1, 2, 3, 4, 5, 6, 0] rfl)
                  · replace hf := if_f c_25 hf
                    refine lv_lload hx hb dX4_storm_115 (lv_at hl 5 rfl) ?_
                    refine lv_iload_n hx hb dX4_storm_117 rfl (lv_at hl 3 rfl) ?_
                    refine lv_iconst (v := 1) hx hb dX4_storm_118 (by decide) ?_
                    refine lv_isub hx hb dX4_storm_119 ?_
                    refine lv_i2l (v := ((p3 - (1 : Int32))).toInt64) hx hb dX4_storm_120 rfl ?_
                    refine lv_iload_n hx hb dX4_storm_121 rfl (lv_at hl 2 rfl) ?_
                    refine lv_iload hx hb dX4_storm_122 (lv_at hl 6 rfl) ?_
                    obtain ⟨a_27, ha_27, hf⟩ := bd_e hf
                    refine Ct.callS (As := [.int q96.2.1]) (rest := [.int p2, .long ((p3 - (1 : Int32))).toInt64, .long q96.1]) (st1 := [.int a_27, .int p2, .long ((p3 - (1 : Int32))).toInt64, .long q96.1]) (c_J6_bitCount_0f7a4 l D cI  q96.2.1 a_27 ha_27) hx hb hml hown hts (va_cwS 1 hts gX4_storm_J6_bitCount_0f7a4 rfl rfl rfl hd_J6_bitCount_0f7a4 ⟨Nat.le_of_ble_eq_true rfl, Nat.le_of_ble_eq_true rfl⟩) Ln.nil hA hK hP hD hS rfl hl.1 rfl rfl (Nat.le_of_ble_eq_true rfl) dX4_storm_124 (fun H locs hP hD hS => ?_)
                    refine lv_isub hx hb dX4_storm_127 ?_
                    obtain ⟨a_28, ha_28, hf⟩ := bd_e hf
                    refine Ct.callS (As := [.long ((p3 - (1 : Int32))).toInt64, .int (p2 - a_27)]) (rest := [.long q96.1]) (st1 := [.long a_28, .long q96.1]) (c_X4_power l D cI  ((p3 - (1 : Int32))).toInt64 (p2 - a_27) a_28 ha_28) hx hb hml hown hts (va_cwS 2 hts gX4_storm_X4_power rfl rfl rfl hd_X4_power ⟨Nat.le_of_ble_eq_true rfl, Nat.le_of_ble_eq_true rfl⟩) Ln.nil hA hK hP hD hS rfl hl.1 rfl rfl (Nat.le_of_ble_eq_true rfl) dX4_storm_128 (fun H locs hP hD hS => ?_)
                    refine lv_ladd hx hb dX4_storm_131 ?_
                    refine lv_topl (fun v_29 ev_29 => ?_)
                    replace hf := nm_at ev_29 hf
                    refine lv_lstore (lv' := [(5, .long v_29), (0, .ref (A 0)), (1, .int p1), (2, .int p2), (3, .int p3), (4, .int p4), (7, .int q96.2.1)]) hx hb dX4_storm_132 hl (by decide) rfl (fun ls hl => ?_)
                    obtain ⟨v_30, ev_30, hf⟩ := nq_e hf
                    refine lv_iinc (v := v_30) (lv' := [(7, .int v_30), (5, .long v_29), (0, .ref (A 0)), (1, .int p1), (2, .int p2), (3, .int p3), (4, .int p4)]) hx hb dX4_storm_134 hl (k := 6) rfl (by rw [ev_30]; rfl) (by decide) rfl (fun ls hl => ?_)
                    refine lv_goto (tgt := 96) hx hb dX4_storm_137 (by decide) ?_
                    exact ih96 (v_29, v_30, a_24.2) hf H locs ls hP hD hS (lv_sub hl [2, 3, 4, 5, 6, 1, 0] rfl)
              · replace hf := if_f c_20 hf
                refine lv_ldc2 (v := 4000000000000000000) hx hb hown kc193 dX4_storm_78 ?_
                refine lv_aload_n hx hb dX4_storm_81 rfl (lv_at hl 0 rfl) ?_
                refine lv_bipush (v := -2) hx hb dX4_storm_82 (by decide +kernel) ?_
                obtain ⟨a_31, ha_31, hf⟩ := bd_e hf
                refine Ct.callV (As := [.int (-2 : Int32)]) (rest := [.long (4000000000000000000 : Int64)]) (st1 := [.int a_31.1, .long (4000000000000000000 : Int64)]) (c_X4_refused l D cI A n t k g w z q (-2 : Int32) a_31 ha_31) hx hb hml hown hts (cwV 1 hts gX4_storm_X4_refused rfl rfl rfl hd_X4_refused ⟨Nat.le_of_ble_eq_true rfl, Nat.le_of_ble_eq_true rfl⟩) (va_recv hK hP (ci := 4) (q0 := 0) rfl cX_at0) (Ln.id rfl) hA hK hP hD hS rfl hl.1 rfl rfl (Nat.le_of_ble_eq_true rfl) dX4_storm_84 (fun H locs hP hD hS => ?_)
                replace hP : va_P D vwCl (cX cI A n t k g w z a_31.2) H := hP
                replace hD : va_D AA (cX cI A n t k g w z a_31.2) := hD
                refine lv_i2l (v := (a_31.1).toInt64) hx hb dX4_storm_87 rfl ?_
                refine lv_lsub hx hb dX4_storm_88 ?_
                exact hend (((4000000000000000000 : Int64) - (a_31.1).toInt64), t, a_31.2) H locs _ _ hf hP hS dX4_storm_89
          · replace hf := if_f c_8 hf
            refine lv_ldc2 (v := 4000000000000000000) hx hb hown kc193 dX4_storm_55 ?_
            refine lv_aload_n hx hb dX4_storm_58 rfl (lv_at hl 0 rfl) ?_
            refine lv_bipush (v := -6) hx hb dX4_storm_59 (by decide +kernel) ?_
            obtain ⟨a_32, ha_32, hf⟩ := bd_e hf
            refine Ct.callV (As := [.int (-6 : Int32)]) (rest := [.long (4000000000000000000 : Int64)]) (st1 := [.int a_32.1, .long (4000000000000000000 : Int64)]) (c_X4_refused l D cI A n t k g w z q (-6 : Int32) a_32 ha_32) hx hb hml hown hts (cwV 1 hts gX4_storm_X4_refused rfl rfl rfl hd_X4_refused ⟨Nat.le_of_ble_eq_true rfl, Nat.le_of_ble_eq_true rfl⟩) (va_recv hK hP (ci := 4) (q0 := 0) rfl cX_at0) (Ln.id rfl) hA hK hP hD hS rfl hl.1 rfl rfl (Nat.le_of_ble_eq_true rfl) dX4_storm_61 (fun H locs hP hD hS => ?_)
            replace hP : va_P D vwCl (cX cI A n t k g w z a_32.2) H := hP
            replace hD : va_D AA (cX cI A n t k g w z a_32.2) := hD
            refine lv_i2l (v := (a_32.1).toInt64) hx hb dX4_storm_64 rfl ?_
            refine lv_lsub hx hb dX4_storm_65 ?_
            exact hend (((4000000000000000000 : Int64) - (a_32.1).toInt64), t, a_32.2) H locs _ _ hf hP hS dX4_storm_66
      · replace hf := if_f c_5 hf
        refine lv_ldc2 (v := 4000000000000000000) hx hb hown kc193 dX4_storm_31 ?_
        refine lv_aload_n hx hb dX4_storm_34 rfl (lv_at hl 0 rfl) ?_
        refine lv_bipush (v := -4) hx hb dX4_storm_35 (by decide +kernel) ?_
        obtain ⟨a_33, ha_33, hf⟩ := bd_e hf
        refine Ct.callV (As := [.int (-4 : Int32)]) (rest := [.long (4000000000000000000 : Int64)]) (st1 := [.int a_33.1, .long (4000000000000000000 : Int64)]) (c_X4_refused l D cI A n t k g w z q (-4 : Int32) a_33 ha_33) hx hb hml hown hts (cwV 1 hts gX4_storm_X4_refused rfl rfl rfl hd_X4_refused ⟨Nat.le_of_ble_eq_true rfl, Nat.le_of_ble_eq_true rfl⟩) (va_recv hK hP (ci := 4) (q0 := 0) rfl cX_at0) (Ln.id rfl) hA hK hP hD hS rfl hl.1 rfl rfl (Nat.le_of_ble_eq_true rfl) dX4_storm_37 (fun H locs hP hD hS => ?_)
        replace hP : va_P D vwCl (cX cI A n t k g w z a_33.2) H := hP
        replace hD : va_D AA (cX cI A n t k g w z a_33.2) := hD
        refine lv_i2l (v := (a_33.1).toInt64) hx hb dX4_storm_40 rfl ?_
        refine lv_lsub hx hb dX4_storm_41 ?_
        exact hend (((4000000000000000000 : Int64) - (a_33.1).toInt64), t, a_33.2) H locs _ _ hf hP hS dX4_storm_42
  · replace hf := if_t c_2 hf
    refine lv_ldc2 (v := 4000000000000000000) hx hb hown kc193 dX4_storm_11 ?_
    refine lv_aload_n hx hb dX4_storm_14 rfl (lv_at hl 0 rfl) ?_
    refine lv_iconst (v := -1) hx hb dX4_storm_15 (by decide) ?_
    obtain ⟨a_34, ha_34, hf⟩ := bd_e hf
    refine Ct.callV (As := [.int (-1 : Int32)]) (rest := [.long (4000000000000000000 : Int64)]) (st1 := [.int a_34.1, .long (4000000000000000000 : Int64)]) (c_X4_refused l D cI A n t k g w z q (-1 : Int32) a_34 ha_34) hx hb hml hown hts (cwV 1 hts gX4_storm_X4_refused rfl rfl rfl hd_X4_refused ⟨Nat.le_of_ble_eq_true rfl, Nat.le_of_ble_eq_true rfl⟩) (va_recv hK hP (ci := 4) (q0 := 0) rfl cX_at0) (Ln.id rfl) hA hK hP hD hS rfl hl.1 rfl rfl (Nat.le_of_ble_eq_true rfl) dX4_storm_16 (fun H locs hP hD hS => ?_)
    replace hP : va_P D vwCl (cX cI A n t k g w z a_34.2) H := hP
    replace hD : va_D AA (cX cI A n t k g w z a_34.2) := hD
    refine lv_i2l (v := (a_34.1).toInt64) hx hb dX4_storm_19 rfl ?_
    refine lv_lsub hx hb dX4_storm_20 ?_
    exact hend (((4000000000000000000 : Int64) - (a_34.1).toInt64), t, a_34.2) H locs _ _ hf hP hS dX4_storm_21
