def rm_X0_copyFrom : Room := { frames := 0, cells := 0, slots := 0, locals := 0 }
theorem hd_X0_copyFrom : yX0_copyFrom.cls = RX0 ∧ yX0_copyFrom.cls ≠ "java/lang/invoke/MethodHandle" ∧ yX0_copyFrom.cls ≠ "java/lang/invoke/VarHandle" ∧ (parseMethodDescriptor yX0_copyFrom.desc).map (fun d => d.parameters.length) = some 1 := by decide +kernel
set_option maxRecDepth 100000 in
set_option maxHeartbeats 4000000 in
theorem c_X0_copyFrom (l : Launch) (D : va_G) (cI : ClassId) (A B : Nat → Nat) (h : St) (o : St) (r : St) (hf : f_X0_copyFrom h o = some r) : Ct l yX0_copyFrom wsX0_copyFrom rm_X0_copyFrom D cI (cHH cI A B h o) (cHH cI A B r o) [.ref (A 0), .ref (B 0)] none := by
  unfold f_X0_copyFrom at hf
  refine Ct.ofV (cc := cX0_copyFrom) (maxL := 3) (by decide +kernel) rfl (Nat.le_of_ble_eq_true rfl) ?_
  intro p e s m args below meth c AA Q H locs ls hx hb hml hown hts hA hK hP hD hS hl hend0
  have hend : ∀ (r1 : St) (H : Heap) (locs : List Loc) (pc : Nat) (ls : Array Slot), some r1 = some r → va_P D vwCl (cHH cI A B r1 o) H → va_S AA s.heap H locs → decode cX0_copyFrom pc = .ok (.return_, 1) → W p l e rm_X0_copyFrom s m args below meth c H locs 0 0 Q (F0 m pc ls []) := by
    intro r1 H locs pc ls e1 hP hS hd; cases e1; exact hend0 H locs pc ls hP hS hd
  clear hend0
  have hw0 : ∀ w ∈ wsX00, w ∈ wsX0_copyFrom := by decide +kernel
  have k11 := hts (.fieldLink RX0 11 "AnchorsForConfession$Harbour" "heavy" "[I") (by decide +kernel)
  have k15 := hts (.fieldLink RX0 15 "AnchorsForConfession$Harbour" "loose" "[I") (by decide +kernel)
  have k18 := hts (.fieldLink RX0 18 "AnchorsForConfession$Harbour" "outFor" "[I") (by decide +kernel)
  have k21 := hts (.fieldLink RX0 21 "AnchorsForConfession$Harbour" "kind" "[I") (by decide +kernel)
  have k24 := hts (.fieldLink RX0 24 "AnchorsForConfession$Harbour" "figure" "[I") (by decide +kernel)
  have k27 := hts (.fieldLink RX0 27 "AnchorsForConfession$Harbour" "sinsOf" "[I") (by decide +kernel)
  have k30 := hts (.fieldLink RX0 30 "AnchorsForConfession$Harbour" "aboard" "[I") (by decide +kernel)
  have k36 := hts (.fieldLink RX0 36 "AnchorsForConfession$Harbour" "ships" "I") (by decide +kernel)
  have k40 := hts (.fieldLink RX0 40 "AnchorsForConfession$Harbour" "men" "I") (by decide +kernel)
  have k43 := hts (.fieldLink RX0 43 "AnchorsForConfession$Harbour" "heard" "I") (by decide +kernel)
  have k46 := hts (.fieldLink RX0 46 "AnchorsForConfession$Harbour" "tide" "I") (by decide +kernel)
  replace hl : lv_has ls 3 [(0, .ref (A 0)), (1, .ref (B 0))] := hl
  refine lv_aload_n hx hb dX0_copyFrom_0 rfl (lv_at hl 0 rfl) ?_
  refine lv_aload_n hx hb dX0_copyFrom_1 rfl (lv_at hl 1 rfl) ?_
  refine va_get (D := D) (ci := 0) (v := .int (o 16 0)) (C := RX0) (T := TX0) (N := 12) hx hb hts hw0 hown hK hP 9 cHH_at9 rfl 0 (by decide) k36 (fun _ h9 => h9) rfl dX0_copyFrom_2 ?_
  refine va_put (D := D) (ci := 0) (v := .int (o 16 0)) (ty := .int) (C := RX0) (T := TX0) (N := 12) hx hb hts hw0 tyX0 tyX0_ok nmX0 hown hK hP hD hS 0 cHH_at0 rfl 0 (by decide) k36 (fun _ h9 => h9) rfl (tyX0_ok 0 (by decide)) rfl rfl (Nat.le_of_ble_eq_true rfl) dX0_copyFrom_5 (fun H locs hP hD hS => ?_)
  obtain ⟨h_1, eh_1, hf⟩ := nq_e hf
  rw [cHH_sc0_0, ← eh_1] at hP hD
  refine lv_aload_n hx hb dX0_copyFrom_8 rfl (lv_at hl 0 rfl) ?_
  refine lv_aload_n hx hb dX0_copyFrom_9 rfl (lv_at hl 1 rfl) ?_
  refine va_get (D := D) (ci := 0) (v := .int (o 16 1)) (C := RX0) (T := TX0) (N := 12) hx hb hts hw0 hown hK hP 9 cHH_at9 rfl 4 (by decide) k40 (fun _ h9 => h9) rfl dX0_copyFrom_10 ?_
  refine va_put (D := D) (ci := 0) (v := .int (o 16 1)) (ty := .int) (C := RX0) (T := TX0) (N := 12) hx hb hts hw0 tyX0 tyX0_ok nmX0 hown hK hP hD hS 0 cHH_at0 rfl 4 (by decide) k40 (fun _ h9 => h9) rfl (tyX0_ok 4 (by decide)) rfl rfl (Nat.le_of_ble_eq_true rfl) dX0_copyFrom_13 (fun H locs hP hD hS => ?_)
  obtain ⟨h_2, eh_2, hf⟩ := nq_e hf
  rw [cHH_sc0_4, ← eh_2] at hP hD
  refine lv_aload_n hx hb dX0_copyFrom_16 rfl (lv_at hl 0 rfl) ?_
  refine lv_aload_n hx hb dX0_copyFrom_17 rfl (lv_at hl 1 rfl) ?_
  refine va_get (D := D) (ci := 0) (v := .int (o 16 2)) (C := RX0) (T := TX0) (N := 12) hx hb hts hw0 hown hK hP 9 cHH_at9 rfl 9 (by decide) k43 (fun _ h9 => h9) rfl dX0_copyFrom_18 ?_
  refine va_put (D := D) (ci := 0) (v := .int (o 16 2)) (ty := .int) (C := RX0) (T := TX0) (N := 12) hx hb hts hw0 tyX0 tyX0_ok nmX0 hown hK hP hD hS 0 cHH_at0 rfl 9 (by decide) k43 (fun _ h9 => h9) rfl (tyX0_ok 9 (by decide)) rfl rfl (Nat.le_of_ble_eq_true rfl) dX0_copyFrom_21 (fun H locs hP hD hS => ?_)
  obtain ⟨h_3, eh_3, hf⟩ := nq_e hf
  rw [cHH_sc0_9, ← eh_3] at hP hD
  refine lv_aload_n hx hb dX0_copyFrom_24 rfl (lv_at hl 0 rfl) ?_
  refine lv_aload_n hx hb dX0_copyFrom_25 rfl (lv_at hl 1 rfl) ?_
  refine va_get (D := D) (ci := 0) (v := .int (o 16 3)) (C := RX0) (T := TX0) (N := 12) hx hb hts hw0 hown hK hP 9 cHH_at9 rfl 10 (by decide) k46 (fun _ h9 => h9) rfl dX0_copyFrom_26 ?_
  refine va_put (D := D) (ci := 0) (v := .int (o 16 3)) (ty := .int) (C := RX0) (T := TX0) (N := 12) hx hb hts hw0 tyX0 tyX0_ok nmX0 hown hK hP hD hS 0 cHH_at0 rfl 10 (by decide) k46 (fun _ h9 => h9) rfl (tyX0_ok 10 (by decide)) rfl rfl (Nat.le_of_ble_eq_true rfl) dX0_copyFrom_29 (fun H locs hP hD hS => ?_)
  obtain ⟨h_4, eh_4, hf⟩ := nq_e hf
  rw [cHH_sc0_10, ← eh_4] at hP hD
  refine lv_iconst (v := 0) hx hb dX0_copyFrom_32 (by decide) ?_
  refine lv_istore_n (lv' := [(2, .int (0 : Int32)), (0, .ref (A 0)), (1, .ref (B 0))]) hx hb dX0_copyFrom_33 rfl hl (by decide) rfl (fun ls hl => ?_)
  refine lp_ind (P := fun (q34 : Int32 × St) => ∀ (H : Heap) (locs : List Loc) (ls : Array Slot), va_P D vwCl (cHH cI A B q34.2 o) H → va_D AA (cHH cI A B q34.2 o) → va_S AA s.heap H locs → lv_has ls 3 [(0, .ref (A 0)), (1, .ref (B 0)), (2, .int q34.1)] → W p l e rm_X0_copyFrom s m args below meth c H locs 0 0 Q (F0 m 34 ls [])) hf ?_ H locs ls hP hD hS (lv_sub hl [1, 2, 0] rfl)
  clear hf hP hD hS hl
  intro nx34 ih34 q34 hf H locs ls hP hD hS hl
  refine lv_iload_n hx hb dX0_copyFrom_34 rfl (lv_at hl 2 rfl) ?_
  refine lv_iconst (v := 5) hx hb dX0_copyFrom_35 (by decide) ?_
  refine lv_icmp_ge (tgt := 81) hx hb dX0_copyFrom_36 (by decide) (fun c_5 => ?_) (fun c_5 => ?_)
  · replace hf := if_t c_5 hf
    refine lv_iconst (v := 0) hx hb dX0_copyFrom_81 (by decide) ?_
    refine lv_istore_n (lv' := [(2, .int (0 : Int32)), (0, .ref (A 0)), (1, .ref (B 0))]) hx hb dX0_copyFrom_82 rfl hl (by decide) rfl (fun ls hl => ?_)
    refine lp_ind (P := fun (q83 : Int32 × St) => ∀ (H : Heap) (locs : List Loc) (ls : Array Slot), va_P D vwCl (cHH cI A B q83.2 o) H → va_D AA (cHH cI A B q83.2 o) → va_S AA s.heap H locs → lv_has ls 3 [(0, .ref (A 0)), (1, .ref (B 0)), (2, .int q83.1)] → W p l e rm_X0_copyFrom s m args below meth c H locs 0 0 Q (F0 m 83 ls [])) hf ?_ H locs ls hP hD hS (lv_sub hl [1, 2, 0] rfl)
    clear hf hP hD hS hl
    intro nx83 ih83 q83 hf H locs ls hP hD hS hl
    refine lv_iload_n hx hb dX0_copyFrom_83 rfl (lv_at hl 2 rfl) ?_
    refine lv_bipush (v := 8) hx hb dX0_copyFrom_84 (by decide +kernel) ?_
    refine lv_icmp_ge (tgt := 143) hx hb dX0_copyFrom_86 (by decide) (fun c_6 => ?_) (fun c_6 => ?_)
    · replace hf := if_t c_6 hf
      exact hend q83.2 H locs _ _ hf hP hS dX0_copyFrom_143
    · replace hf := if_f c_6 hf
      refine lv_aload_n hx hb dX0_copyFrom_89 rfl (lv_at hl 0 rfl) ?_
      refine va_get (D := D) (ci := 0) (v := .ref (A 4)) (C := RX0) (T := TX0) (N := 12) hx hb hts hw0 hown hK hP 0 cHH_at0 rfl 5 (by decide) k21 (fun _ h9 => h9) rfl dX0_copyFrom_90 ?_
      refine lv_iload_n hx hb dX0_copyFrom_93 rfl (lv_at hl 2 rfl) ?_
      refine lv_aload_n hx hb dX0_copyFrom_94 rfl (lv_at hl 1 rfl) ?_
      refine va_get (D := D) (ci := 0) (v := .ref (B 4)) (C := RX0) (T := TX0) (N := 12) hx hb hts hw0 hown hK hP 9 cHH_at9 rfl 5 (by decide) k21 (fun _ h9 => h9) rfl dX0_copyFrom_95 ?_
      refine lv_iload_n hx hb dX0_copyFrom_98 rfl (lv_at hl 2 rfl) ?_
      obtain ⟨c_7, hf⟩ := gi_e hf
      refine va_iald hx hb hK hP 13 0 cHH_at13 rfl c_7 dX0_copyFrom_99 ?_
      obtain ⟨c_8, hf⟩ := gi_e hf
      refine va_iast hx hb hK hP hD hS 4 0 cHH_at4 rfl c_8 dX0_copyFrom_100 (fun H locs hP hD hS => ?_)
      obtain ⟨h_9, eh_9, hf⟩ := nq_e hf
      rw [cHH_su4, ← eh_9] at hP hD
      refine lv_aload_n hx hb dX0_copyFrom_101 rfl (lv_at hl 0 rfl) ?_
      refine va_get (D := D) (ci := 0) (v := .ref (A 5)) (C := RX0) (T := TX0) (N := 12) hx hb hts hw0 hown hK hP 0 cHH_at0 rfl 6 (by decide) k24 (fun _ h9 => h9) rfl dX0_copyFrom_102 ?_
      refine lv_iload_n hx hb dX0_copyFrom_105 rfl (lv_at hl 2 rfl) ?_
      refine lv_aload_n hx hb dX0_copyFrom_106 rfl (lv_at hl 1 rfl) ?_
      refine va_get (D := D) (ci := 0) (v := .ref (B 5)) (C := RX0) (T := TX0) (N := 12) hx hb hts hw0 hown hK hP 9 cHH_at9 rfl 6 (by decide) k24 (fun _ h9 => h9) rfl dX0_copyFrom_107 ?_
      refine lv_iload_n hx hb dX0_copyFrom_110 rfl (lv_at hl 2 rfl) ?_
      obtain ⟨c_10, hf⟩ := gi_e hf
      refine va_iald hx hb hK hP 14 0 cHH_at14 rfl c_10 dX0_copyFrom_111 ?_
      obtain ⟨c_11, hf⟩ := gi_e hf
      refine va_iast hx hb hK hP hD hS 5 0 cHH_at5 rfl c_11 dX0_copyFrom_112 (fun H locs hP hD hS => ?_)
      obtain ⟨h_12, eh_12, hf⟩ := nq_e hf
      rw [cHH_su5, ← eh_12] at hP hD
      refine lv_aload_n hx hb dX0_copyFrom_113 rfl (lv_at hl 0 rfl) ?_
      refine va_get (D := D) (ci := 0) (v := .ref (A 6)) (C := RX0) (T := TX0) (N := 12) hx hb hts hw0 hown hK hP 0 cHH_at0 rfl 7 (by decide) k27 (fun _ h9 => h9) rfl dX0_copyFrom_114 ?_
      refine lv_iload_n hx hb dX0_copyFrom_117 rfl (lv_at hl 2 rfl) ?_
      refine lv_aload_n hx hb dX0_copyFrom_118 rfl (lv_at hl 1 rfl) ?_
      refine va_get (D := D) (ci := 0) (v := .ref (B 6)) (C := RX0) (T := TX0) (N := 12) hx hb hts hw0 hown hK hP 9 cHH_at9 rfl 7 (by decide) k27 (fun _ h9 => h9) rfl dX0_copyFrom_119 ?_
      refine lv_iload_n hx hb dX0_copyFrom_122 rfl (lv_at hl 2 rfl) ?_
      obtain ⟨c_13, hf⟩ := gi_e hf
      refine va_iald hx hb hK hP 15 0 cHH_at15 rfl c_13 dX0_copyFrom_123 ?_
      obtain ⟨c_14, hf⟩ := gi_e hf
      refine va_iast hx hb hK hP hD hS 6 0 cHH_at6 rfl c_14 dX0_copyFrom_124 (fun H locs hP hD hS => ?_)
      obtain ⟨h_15, eh_15, hf⟩ := nq_e hf
      rw [cHH_su6, ← eh_15] at hP hD
      refine lv_aload_n hx hb dX0_copyFrom_125 rfl (lv_at hl 0 rfl) ?_
      refine va_get (D := D) (ci := 0) (v := .ref (A 7)) (C := RX0) (T := TX0) (N := 12) hx hb hts hw0 hown hK hP 0 cHH_at0 rfl 8 (by decide) k30 (fun _ h9 => h9) rfl dX0_copyFrom_126 ?_
      refine lv_iload_n hx hb dX0_copyFrom_129 rfl (lv_at hl 2 rfl) ?_
      refine lv_aload_n hx hb dX0_copyFrom_130 rfl (lv_at hl 1 rfl) ?_
      refine va_get (D := D) (ci := 0) (v := .ref (B 7)) (C := RX0) (T := TX0) (N := 12) hx hb hts hw0 hown hK hP 9 cHH_at9 rfl 8 (by decide) k30 (fun _ h9 => h9) rfl dX0_copyFrom_131 ?_
      refine lv_iload_n hx hb dX0_copyFrom_134 rfl (lv_at hl 2 rfl) ?_
      obtain ⟨c_16, hf⟩ := gi_e hf
      refine va_iald hx hb hK hP 16 0 cHH_at16 rfl c_16 dX0_copyFrom_135 ?_
      obtain ⟨c_17, hf⟩ := gi_e hf
      refine va_iast hx hb hK hP hD hS 7 0 cHH_at7 rfl c_17 dX0_copyFrom_136 (fun H locs hP hD hS => ?_)
      obtain ⟨h_18, eh_18, hf⟩ := nq_e hf
      rw [cHH_su7, ← eh_18] at hP hD
      obtain ⟨v_19, ev_19, hf⟩ := nq_e hf
      refine lv_iinc (v := v_19) (lv' := [(2, .int v_19), (0, .ref (A 0)), (1, .ref (B 0))]) hx hb dX0_copyFrom_137 hl (k := 2) rfl (by rw [ev_19]; rfl) (by decide) rfl (fun ls hl => ?_)
      refine lv_goto (tgt := 83) hx hb dX0_copyFrom_140 (by decide) ?_
      exact ih83 (v_19, h_18) hf H locs ls hP hD hS (lv_sub hl [1, 2, 0] rfl)
  · replace hf := if_f c_5 hf
    refine lv_aload_n hx hb dX0_copyFrom_39 rfl (lv_at hl 0 rfl) ?_
    refine va_get (D := D) (ci := 0) (v := .ref (A 1)) (C := RX0) (T := TX0) (N := 12) hx hb hts hw0 hown hK hP 0 cHH_at0 rfl 1 (by decide) k11 (fun _ h9 => h9) rfl dX0_copyFrom_40 ?_
    refine lv_iload_n hx hb dX0_copyFrom_43 rfl (lv_at hl 2 rfl) ?_
    refine lv_aload_n hx hb dX0_copyFrom_44 rfl (lv_at hl 1 rfl) ?_
    refine va_get (D := D) (ci := 0) (v := .ref (B 1)) (C := RX0) (T := TX0) (N := 12) hx hb hts hw0 hown hK hP 9 cHH_at9 rfl 1 (by decide) k11 (fun _ h9 => h9) rfl dX0_copyFrom_45 ?_
    refine lv_iload_n hx hb dX0_copyFrom_48 rfl (lv_at hl 2 rfl) ?_
    obtain ⟨c_20, hf⟩ := gi_e hf
    refine va_iald hx hb hK hP 10 0 cHH_at10 rfl c_20 dX0_copyFrom_49 ?_
    obtain ⟨c_21, hf⟩ := gi_e hf
    refine va_iast hx hb hK hP hD hS 1 0 cHH_at1 rfl c_21 dX0_copyFrom_50 (fun H locs hP hD hS => ?_)
    obtain ⟨h_22, eh_22, hf⟩ := nq_e hf
    rw [cHH_su1, ← eh_22] at hP hD
    refine lv_aload_n hx hb dX0_copyFrom_51 rfl (lv_at hl 0 rfl) ?_
    refine va_get (D := D) (ci := 0) (v := .ref (A 2)) (C := RX0) (T := TX0) (N := 12) hx hb hts hw0 hown hK hP 0 cHH_at0 rfl 2 (by decide) k15 (fun _ h9 => h9) rfl dX0_copyFrom_52 ?_
    refine lv_iload_n hx hb dX0_copyFrom_55 rfl (lv_at hl 2 rfl) ?_
    refine lv_aload_n hx hb dX0_copyFrom_56 rfl (lv_at hl 1 rfl) ?_
    refine va_get (D := D) (ci := 0) (v := .ref (B 2)) (C := RX0) (T := TX0) (N := 12) hx hb hts hw0 hown hK hP 9 cHH_at9 rfl 2 (by decide) k15 (fun _ h9 => h9) rfl dX0_copyFrom_57 ?_
    refine lv_iload_n hx hb dX0_copyFrom_60 rfl (lv_at hl 2 rfl) ?_
    obtain ⟨c_23, hf⟩ := gi_e hf
    refine va_iald hx hb hK hP 11 0 cHH_at11 rfl c_23 dX0_copyFrom_61 ?_
    obtain ⟨c_24, hf⟩ := gi_e hf
    refine va_iast hx hb hK hP hD hS 2 0 cHH_at2 rfl c_24 dX0_copyFrom_62 (fun H locs hP hD hS => ?_)
    obtain ⟨h_25, eh_25, hf⟩ := nq_e hf
    rw [cHH_su2, ← eh_25] at hP hD
    refine lv_aload_n hx hb dX0_copyFrom_63 rfl (lv_at hl 0 rfl) ?_
    refine va_get (D := D) (ci := 0) (v := .ref (A 3)) (C := RX0) (T := TX0) (N := 12) hx hb hts hw0 hown hK hP 0 cHH_at0 rfl 3 (by decide) k18 (fun _ h9 => h9) rfl dX0_copyFrom_64 ?_
    refine lv_iload_n hx hb dX0_copyFrom_67 rfl (lv_at hl 2 rfl) ?_
    refine lv_aload_n hx hb dX0_copyFrom_68 rfl (lv_at hl 1 rfl) ?_
    refine va_get (D := D) (ci := 0) (v := .ref (B 3)) (C := RX0) (T := TX0) (N := 12) hx hb hts hw0 hown hK hP 9 cHH_at9 rfl 3 (by decide) k18 (fun _ h9 => h9) rfl dX0_copyFrom_69 ?_
    refine lv_iload_n hx hb dX0_copyFrom_72 rfl (lv_at hl 2 rfl) ?_
    obtain ⟨c_26, hf⟩ := gi_e hf
    refine va_iald hx hb hK hP 12 0 cHH_at12 rfl c_26 dX0_copyFrom_73 ?_
    obtain ⟨c_27, hf⟩ := gi_e hf
    refine va_iast hx hb hK hP hD hS 3 0 cHH_at3 rfl c_27 dX0_copyFrom_74 (fun H locs hP hD hS => ?_)
    obtain ⟨h_28, eh_28, hf⟩ := nq_e hf
    rw [cHH_su3, ← eh_28] at hP hD
    obtain ⟨v_29, ev_29, hf⟩ := nq_e hf
    refine lv_iinc (v := v_29) (lv' := [(2, .int v_29), (0, .ref (A 0)), (1, .ref (B 0))]) hx hb dX0_copyFrom_75 hl (k := 2) rfl (by rw [ev_29]; rfl) (by decide) rfl (fun ls hl => ?_)
    refine lv_goto (tgt := 34) hx hb dX0_copyFrom_78 (by decide) ?_
    exact ih34 (v_29, h_28) hf H locs ls hP hD hS (lv_sub hl [1, 2, 0] rfl)

def rm_X0_hasShip : Room := { frames := 0, cells := 0, slots := 0, locals := 0 }
theorem hd_X0_hasShip : yX0_hasShip.cls = RX0 ∧ yX0_hasShip.cls ≠ "java/lang/invoke/MethodHandle" ∧ yX0_hasShip.cls ≠ "java/lang/invoke/VarHandle" ∧ (parseMethodDescriptor yX0_hasShip.desc).map (fun d => d.parameters.length) = some 1 := by decide +kernel
set_option maxRecDepth 100000 in
set_option maxHeartbeats 4000000 in
theorem c_X0_hasShip (l : Launch) (D : va_G) (cI : ClassId) (A : Nat → Nat) (h : St) (p1 : Int32) (r : Int32) (hf : f_X0_hasShip h p1 = some r) : Ct l yX0_hasShip wsX0_hasShip rm_X0_hasShip D cI (cH cI A h) (cH cI A h) [.ref (A 0), .int p1] (some (.int r)) := by
  unfold f_X0_hasShip at hf
  obtain ⟨hz, hf⟩ := fz_e hf
  refine Ct.ofZ hz (cc := cX0_hasShip) (maxL := 2) (by decide +kernel) rfl (Nat.le_of_ble_eq_true rfl) ?_
  intro p e s m args below meth c AA Q H locs ls hx hb hml hown hts hA hK hP hD hS hl hend0
  have hend : ∀ (r1 : Int32) (H : Heap) (locs : List Loc) (pc : Nat) (ls : Array Slot), some r1 = some r → va_P D vwCl (cH cI A h) H → va_S AA s.heap H locs → decode cX0_hasShip pc = .ok (.ireturn, 1) → W p l e rm_X0_hasShip s m args below meth c H locs 0 0 Q (F0 m pc ls [.int r1]) := by
    intro r1 H locs pc ls e1 hP hS hd; cases e1; exact hend0 H locs pc ls hP hS hd
  clear hend0
  have hw0 : ∀ w ∈ wsX00, w ∈ wsX0_hasShip := by decide +kernel
  have k36 := hts (.fieldLink RX0 36 "AnchorsForConfession$Harbour" "ships" "I") (by decide +kernel)
  replace hl : lv_has ls 2 [(0, .ref (A 0)), (1, .int p1)] := hl
  refine lv_iload_n hx hb dX0_hasShip_0 rfl (lv_at hl 1 rfl) ?_
  refine lv_if_lt (tgt := 16) hx hb dX0_hasShip_1 (by decide) (fun c_1 => ?_) (fun c_1 => ?_)
  · replace hf := if_t c_1 hf
    refine lv_iconst (v := 0) hx hb dX0_hasShip_16 (by decide) ?_
    exact hend (0 : Int32) H locs _ _ hf hP hS dX0_hasShip_17
  · replace hf := if_f c_1 hf
    refine lv_iload_n hx hb dX0_hasShip_4 rfl (lv_at hl 1 rfl) ?_
    refine lv_aload_n hx hb dX0_hasShip_5 rfl (lv_at hl 0 rfl) ?_
    refine va_get (D := D) (ci := 0) (v := .int (h 16 0)) (C := RX0) (T := TX0) (N := 12) hx hb hts hw0 hown hK hP 0 cH_at0 rfl 0 (by decide) k36 (fun _ h9 => h9) rfl dX0_hasShip_6 ?_
    refine lv_icmp_ge (tgt := 16) hx hb dX0_hasShip_9 (by decide) (fun c_2 => ?_) (fun c_2 => ?_)
    · replace hf := if_t c_2 hf
      refine lv_iconst (v := 0) hx hb dX0_hasShip_16 (by decide) ?_
      exact hend (0 : Int32) H locs _ _ hf hP hS dX0_hasShip_17
    · replace hf := if_f c_2 hf
      refine lv_iconst (v := 1) hx hb dX0_hasShip_12 (by decide) ?_
      refine lv_goto (tgt := 17) hx hb dX0_hasShip_13 (by decide) ?_
      exact hend (1 : Int32) H locs _ _ hf hP hS dX0_hasShip_17

def rm_X0_hasMan : Room := { frames := 0, cells := 0, slots := 0, locals := 0 }
theorem hd_X0_hasMan : yX0_hasMan.cls = RX0 ∧ yX0_hasMan.cls ≠ "java/lang/invoke/MethodHandle" ∧ yX0_hasMan.cls ≠ "java/lang/invoke/VarHandle" ∧ (parseMethodDescriptor yX0_hasMan.desc).map (fun d => d.parameters.length) = some 1 := by decide +kernel
set_option maxRecDepth 100000 in
set_option maxHeartbeats 4000000 in
theorem c_X0_hasMan (l : Launch) (D : va_G) (cI : ClassId) (A : Nat → Nat) (h : St) (p1 : Int32) (r : Int32) (hf : f_X0_hasMan h p1 = some r) : Ct l yX0_hasMan wsX0_hasMan rm_X0_hasMan D cI (cH cI A h) (cH cI A h) [.ref (A 0), .int p1] (some (.int r)) := by
  unfold f_X0_hasMan at hf
  obtain ⟨hz, hf⟩ := fz_e hf
  refine Ct.ofZ hz (cc := cX0_hasMan) (maxL := 2) (by decide +kernel) rfl (Nat.le_of_ble_eq_true rfl) ?_
  intro p e s m args below meth c AA Q H locs ls hx hb hml hown hts hA hK hP hD hS hl hend0
  have hend : ∀ (r1 : Int32) (H : Heap) (locs : List Loc) (pc : Nat) (ls : Array Slot), some r1 = some r → va_P D vwCl (cH cI A h) H → va_S AA s.heap H locs → decode cX0_hasMan pc = .ok (.ireturn, 1) → W p l e rm_X0_hasMan s m args below meth c H locs 0 0 Q (F0 m pc ls [.int r1]) := by
    intro r1 H locs pc ls e1 hP hS hd; cases e1; exact hend0 H locs pc ls hP hS hd
  clear hend0
  have hw0 : ∀ w ∈ wsX00, w ∈ wsX0_hasMan := by decide +kernel
  have k40 := hts (.fieldLink RX0 40 "AnchorsForConfession$Harbour" "men" "I") (by decide +kernel)
  replace hl : lv_has ls 2 [(0, .ref (A 0)), (1, .int p1)] := hl
  refine lv_iload_n hx hb dX0_hasMan_0 rfl (lv_at hl 1 rfl) ?_
  refine lv_if_lt (tgt := 16) hx hb dX0_hasMan_1 (by decide) (fun c_1 => ?_) (fun c_1 => ?_)
  · replace hf := if_t c_1 hf
    refine lv_iconst (v := 0) hx hb dX0_hasMan_16 (by decide) ?_
    exact hend (0 : Int32) H locs _ _ hf hP hS dX0_hasMan_17
  · replace hf := if_f c_1 hf
    refine lv_iload_n hx hb dX0_hasMan_4 rfl (lv_at hl 1 rfl) ?_
    refine lv_aload_n hx hb dX0_hasMan_5 rfl (lv_at hl 0 rfl) ?_
    refine va_get (D := D) (ci := 0) (v := .int (h 16 1)) (C := RX0) (T := TX0) (N := 12) hx hb hts hw0 hown hK hP 0 cH_at0 rfl 4 (by decide) k40 (fun _ h9 => h9) rfl dX0_hasMan_6 ?_
    refine lv_icmp_ge (tgt := 16) hx hb dX0_hasMan_9 (by decide) (fun c_2 => ?_) (fun c_2 => ?_)
    · replace hf := if_t c_2 hf
      refine lv_iconst (v := 0) hx hb dX0_hasMan_16 (by decide) ?_
      exact hend (0 : Int32) H locs _ _ hf hP hS dX0_hasMan_17
    · replace hf := if_f c_2 hf
      refine lv_iconst (v := 1) hx hb dX0_hasMan_12 (by decide) ?_
      refine lv_goto (tgt := 17) hx hb dX0_hasMan_13 (by decide) ?_
      exact hend (1 : Int32) H locs _ _ hf hP hS dX0_hasMan_17

def rm_X0_addShip : Room := { frames := 0, cells := 0, slots := 0, locals := 0 }
theorem hd_X0_addShip : yX0_addShip.cls = RX0 ∧ yX0_addShip.cls ≠ "java/lang/invoke/MethodHandle" ∧ yX0_addShip.cls ≠ "java/lang/invoke/VarHandle" ∧ (parseMethodDescriptor yX0_addShip.desc).map (fun d => d.parameters.length) = some 1 := by decide +kernel
set_option maxRecDepth 100000 in
set_option maxHeartbeats 4000000 in
theorem c_X0_addShip (l : Launch) (D : va_G) (cI : ClassId) (A : Nat → Nat) (h : St) (p1 : Int32) (r : Int32 × St) (hf : f_X0_addShip h p1 = some r) : Ct l yX0_addShip wsX0_addShip rm_X0_addShip D cI (cH cI A h) (cH cI A r.2) [.ref (A 0), .int p1] (some (.int r.1)) := by
  unfold f_X0_addShip at hf
  obtain ⟨hz, hf⟩ := fzp_e hf
  refine Ct.ofZ hz (cc := cX0_addShip) (maxL := 2) (by decide +kernel) rfl (Nat.le_of_ble_eq_true rfl) ?_
  intro p e s m args below meth c AA Q H locs ls hx hb hml hown hts hA hK hP hD hS hl hend0
  have hend : ∀ (r1 : Int32 × St) (H : Heap) (locs : List Loc) (pc : Nat) (ls : Array Slot), some r1 = some r → va_P D vwCl (cH cI A r1.2) H → va_S AA s.heap H locs → decode cX0_addShip pc = .ok (.ireturn, 1) → W p l e rm_X0_addShip s m args below meth c H locs 0 0 Q (F0 m pc ls [.int r1.1]) := by
    intro r1 H locs pc ls e1 hP hS hd; cases e1; exact hend0 H locs pc ls hP hS hd
  clear hend0
  have hw0 : ∀ w ∈ wsX00, w ∈ wsX0_addShip := by decide +kernel
  have k11 := hts (.fieldLink RX0 11 "AnchorsForConfession$Harbour" "heavy" "[I") (by decide +kernel)
  have k15 := hts (.fieldLink RX0 15 "AnchorsForConfession$Harbour" "loose" "[I") (by decide +kernel)
  have k18 := hts (.fieldLink RX0 18 "AnchorsForConfession$Harbour" "outFor" "[I") (by decide +kernel)
  have k36 := hts (.fieldLink RX0 36 "AnchorsForConfession$Harbour" "ships" "I") (by decide +kernel)
  replace hl : lv_has ls 2 [(0, .ref (A 0)), (1, .int p1)] := hl
  refine lv_aload_n hx hb dX0_addShip_0 rfl (lv_at hl 0 rfl) ?_
  refine va_get (D := D) (ci := 0) (v := .int (h 16 0)) (C := RX0) (T := TX0) (N := 12) hx hb hts hw0 hown hK hP 0 cH_at0 rfl 0 (by decide) k36 (fun _ h9 => h9) rfl dX0_addShip_1 ?_
  refine lv_iconst (v := 5) hx hb dX0_addShip_4 (by decide) ?_
  refine lv_icmp_lt (tgt := 10) hx hb dX0_addShip_5 (by decide) (fun c_1 => ?_) (fun c_1 => ?_)
  · replace hf := if_t c_1 hf
    refine lv_aload_n hx hb dX0_addShip_10 rfl (lv_at hl 0 rfl) ?_
    refine va_get (D := D) (ci := 0) (v := .ref (A 1)) (C := RX0) (T := TX0) (N := 12) hx hb hts hw0 hown hK hP 0 cH_at0 rfl 1 (by decide) k11 (fun _ h9 => h9) rfl dX0_addShip_11 ?_
    refine lv_aload_n hx hb dX0_addShip_14 rfl (lv_at hl 0 rfl) ?_
    refine va_get (D := D) (ci := 0) (v := .int (h 16 0)) (C := RX0) (T := TX0) (N := 12) hx hb hts hw0 hown hK hP 0 cH_at0 rfl 0 (by decide) k36 (fun _ h9 => h9) rfl dX0_addShip_15 ?_
    refine lv_iload_n hx hb dX0_addShip_18 rfl (lv_at hl 1 rfl) ?_
    obtain ⟨c_2, hf⟩ := gi_e hf
    refine va_iast hx hb hK hP hD hS 1 0 cH_at1 rfl c_2 dX0_addShip_19 (fun H locs hP hD hS => ?_)
    obtain ⟨h_3, eh_3, hf⟩ := nq_e hf
    rw [cH_su1, ← eh_3] at hP hD
    refine lv_aload_n hx hb dX0_addShip_20 rfl (lv_at hl 0 rfl) ?_
    refine va_get (D := D) (ci := 0) (v := .ref (A 2)) (C := RX0) (T := TX0) (N := 12) hx hb hts hw0 hown hK hP 0 cH_at0 rfl 2 (by decide) k15 (fun _ h9 => h9) rfl dX0_addShip_21 ?_
    refine lv_aload_n hx hb dX0_addShip_24 rfl (lv_at hl 0 rfl) ?_
    refine va_get (D := D) (ci := 0) (v := .int (h_3 16 0)) (C := RX0) (T := TX0) (N := 12) hx hb hts hw0 hown hK hP 0 cH_at0 rfl 0 (by decide) k36 (fun _ h9 => h9) rfl dX0_addShip_25 ?_
    refine lv_iconst (v := 0) hx hb dX0_addShip_28 (by decide) ?_
    obtain ⟨c_4, hf⟩ := gi_e hf
    refine va_iast hx hb hK hP hD hS 2 0 cH_at2 rfl c_4 dX0_addShip_29 (fun H locs hP hD hS => ?_)
    obtain ⟨h_5, eh_5, hf⟩ := nq_e hf
    rw [cH_su2, ← eh_5] at hP hD
    refine lv_aload_n hx hb dX0_addShip_30 rfl (lv_at hl 0 rfl) ?_
    refine va_get (D := D) (ci := 0) (v := .ref (A 3)) (C := RX0) (T := TX0) (N := 12) hx hb hts hw0 hown hK hP 0 cH_at0 rfl 3 (by decide) k18 (fun _ h9 => h9) rfl dX0_addShip_31 ?_
    refine lv_aload_n hx hb dX0_addShip_34 rfl (lv_at hl 0 rfl) ?_
    refine va_get (D := D) (ci := 0) (v := .int (h_5 16 0)) (C := RX0) (T := TX0) (N := 12) hx hb hts hw0 hown hK hP 0 cH_at0 rfl 0 (by decide) k36 (fun _ h9 => h9) rfl dX0_addShip_35 ?_
    refine lv_iconst (v := 0) hx hb dX0_addShip_38 (by decide) ?_
    obtain ⟨c_6, hf⟩ := gi_e hf
    refine va_iast hx hb hK hP hD hS 3 0 cH_at3 rfl c_6 dX0_addShip_39 (fun H locs hP hD hS => ?_)
    obtain ⟨h_7, eh_7, hf⟩ := nq_e hf
    rw [cH_su3, ← eh_7] at hP hD
    refine lv_aload_n hx hb dX0_addShip_40 rfl (lv_at hl 0 rfl) ?_
    refine lv_dup hx hb dX0_addShip_41 rfl ?_
    refine va_get (D := D) (ci := 0) (v := .int (h_7 16 0)) (C := RX0) (T := TX0) (N := 12) hx hb hts hw0 hown hK hP 0 cH_at0 rfl 0 (by decide) k36 (fun _ h9 => h9) rfl dX0_addShip_42 ?_
    refine lv_iconst (v := 1) hx hb dX0_addShip_45 (by decide) ?_
    refine lv_iadd hx hb dX0_addShip_46 ?_
    refine va_put (D := D) (ci := 0) (v := .int ((h_7 16 0) + (1 : Int32))) (ty := .int) (C := RX0) (T := TX0) (N := 12) hx hb hts hw0 tyX0 tyX0_ok nmX0 hown hK hP hD hS 0 cH_at0 rfl 0 (by decide) k36 (fun _ h9 => h9) rfl (tyX0_ok 0 (by decide)) rfl rfl (Nat.le_of_ble_eq_true rfl) dX0_addShip_47 (fun H locs hP hD hS => ?_)
    obtain ⟨h_8, eh_8, hf⟩ := nq_e hf
    rw [cH_sc0_0, ← eh_8] at hP hD
    refine lv_iconst (v := 1) hx hb dX0_addShip_50 (by decide) ?_
    exact hend ((1 : Int32), h_8) H locs _ _ hf hP hS dX0_addShip_51
  · replace hf := if_f c_1 hf
    refine lv_iconst (v := 0) hx hb dX0_addShip_8 (by decide) ?_
    exact hend ((0 : Int32), h) H locs _ _ hf hP hS dX0_addShip_9

def rm_X0_addMan : Room := { frames := 1, cells := 0, slots := 0, locals := 21 }
theorem hd_X0_addMan : yX0_addMan.cls = RX0 ∧ yX0_addMan.cls ≠ "java/lang/invoke/MethodHandle" ∧ yX0_addMan.cls ≠ "java/lang/invoke/VarHandle" ∧ (parseMethodDescriptor yX0_addMan.desc).map (fun d => d.parameters.length) = some 4 := by decide +kernel
set_option maxRecDepth 100000 in
set_option maxHeartbeats 4000000 in
theorem c_X0_addMan (l : Launch) (D : va_G) (cI : ClassId) (A : Nat → Nat) (h : St) (p1 : Int32) (p2 : Int32) (p3 : Int32) (p4 : Int32) (r : Int32 × St) (hf : f_X0_addMan h p1 p2 p3 p4 = some r) : Ct l yX0_addMan wsX0_addMan rm_X0_addMan D cI (cH cI A h) (cH cI A r.2) [.ref (A 0), .int p1, .int p2, .int p3, .int p4] (some (.int r.1)) := by
  unfold f_X0_addMan at hf
  obtain ⟨hz, hf⟩ := fzp_e hf
  refine Ct.ofZ hz (cc := cX0_addMan) (maxL := 5) (by decide +kernel) rfl (Nat.le_of_ble_eq_true rfl) ?_
  intro p e s m args below meth c AA Q H locs ls hx hb hml hown hts hA hK hP hD hS hl hend0
  have hend : ∀ (r1 : Int32 × St) (H : Heap) (locs : List Loc) (pc : Nat) (ls : Array Slot), some r1 = some r → va_P D vwCl (cH cI A r1.2) H → va_S AA s.heap H locs → decode cX0_addMan pc = .ok (.ireturn, 1) → W p l e rm_X0_addMan s m args below meth c H locs 0 0 Q (F0 m pc ls [.int r1.1]) := by
    intro r1 H locs pc ls e1 hP hS hd; cases e1; exact hend0 H locs pc ls hP hS hd
  clear hend0
  have hw0 : ∀ w ∈ wsX00, w ∈ wsX0_addMan := by decide +kernel
  have k21 := hts (.fieldLink RX0 21 "AnchorsForConfession$Harbour" "kind" "[I") (by decide +kernel)
  have k24 := hts (.fieldLink RX0 24 "AnchorsForConfession$Harbour" "figure" "[I") (by decide +kernel)
  have k27 := hts (.fieldLink RX0 27 "AnchorsForConfession$Harbour" "sinsOf" "[I") (by decide +kernel)
  have k30 := hts (.fieldLink RX0 30 "AnchorsForConfession$Harbour" "aboard" "[I") (by decide +kernel)
  have k40 := hts (.fieldLink RX0 40 "AnchorsForConfession$Harbour" "men" "I") (by decide +kernel)
  replace hl : lv_has ls 5 [(0, .ref (A 0)), (1, .int p1), (2, .int p2), (3, .int p3), (4, .int p4)] := hl
  refine lv_aload_n hx hb dX0_addMan_0 rfl (lv_at hl 0 rfl) ?_
  refine va_get (D := D) (ci := 0) (v := .int (h 16 1)) (C := RX0) (T := TX0) (N := 12) hx hb hts hw0 hown hK hP 0 cH_at0 rfl 4 (by decide) k40 (fun _ h9 => h9) rfl dX0_addMan_1 ?_
  refine lv_bipush (v := 8) hx hb dX0_addMan_4 (by decide +kernel) ?_
  refine lv_icmp_ge (tgt := 18) hx hb dX0_addMan_6 (by decide) (fun c_1 => ?_) (fun c_1 => ?_)
  · replace hf := if_t c_1 hf
    refine lv_iconst (v := 0) hx hb dX0_addMan_18 (by decide) ?_
    exact hend ((0 : Int32), h) H locs _ _ hf hP hS dX0_addMan_19
  · replace hf := if_f c_1 hf
    refine lv_aload_n hx hb dX0_addMan_9 rfl (lv_at hl 0 rfl) ?_
    refine lv_iload hx hb dX0_addMan_10 (lv_at hl 4 rfl) ?_
    obtain ⟨a_2, ha_2, hf⟩ := bd_e hf
    refine Ct.callV (As := [.int p4]) (rest := []) (st1 := [.int a_2]) (c_X0_hasShip l D cI A h p4 a_2 ha_2) hx hb hml hown hts (cwV 1 hts gX0_addMan_X0_hasShip rfl rfl rfl hd_X0_hasShip ⟨Nat.le_of_ble_eq_true rfl, Nat.le_of_ble_eq_true rfl⟩) (va_recv hK hP (ci := 0) (q0 := 0) rfl cH_at0) (Ln.id rfl) hA hK hP hD hS rfl hl.1 rfl rfl (Nat.le_of_ble_eq_true rfl) dX0_addMan_12 (fun H locs hP hD hS => ?_)
    refine lv_if_ne (tgt := 20) hx hb dX0_addMan_15 (by decide) (fun c_3 => ?_) (fun c_3 => ?_)
    · replace hf := if_f c_3 hf
      refine lv_aload_n hx hb dX0_addMan_20 rfl (lv_at hl 0 rfl) ?_
      refine va_get (D := D) (ci := 0) (v := .ref (A 4)) (C := RX0) (T := TX0) (N := 12) hx hb hts hw0 hown hK hP 0 cH_at0 rfl 5 (by decide) k21 (fun _ h9 => h9) rfl dX0_addMan_21 ?_
      refine lv_aload_n hx hb dX0_addMan_24 rfl (lv_at hl 0 rfl) ?_
      refine va_get (D := D) (ci := 0) (v := .int (h 16 1)) (C := RX0) (T := TX0) (N := 12) hx hb hts hw0 hown hK hP 0 cH_at0 rfl 4 (by decide) k40 (fun _ h9 => h9) rfl dX0_addMan_25 ?_
      refine lv_iload_n hx hb dX0_addMan_28 rfl (lv_at hl 1 rfl) ?_
      obtain ⟨c_4, hf⟩ := gi_e hf
      refine va_iast hx hb hK hP hD hS 4 0 cH_at4 rfl c_4 dX0_addMan_29 (fun H locs hP hD hS => ?_)
      obtain ⟨h_5, eh_5, hf⟩ := nq_e hf
      rw [cH_su4, ← eh_5] at hP hD
      refine lv_aload_n hx hb dX0_addMan_30 rfl (lv_at hl 0 rfl) ?_
      refine va_get (D := D) (ci := 0) (v := .ref (A 5)) (C := RX0) (T := TX0) (N := 12) hx hb hts hw0 hown hK hP 0 cH_at0 rfl 6 (by decide) k24 (fun _ h9 => h9) rfl dX0_addMan_31 ?_
      refine lv_aload_n hx hb dX0_addMan_34 rfl (lv_at hl 0 rfl) ?_
      refine va_get (D := D) (ci := 0) (v := .int (h_5 16 1)) (C := RX0) (T := TX0) (N := 12) hx hb hts hw0 hown hK hP 0 cH_at0 rfl 4 (by decide) k40 (fun _ h9 => h9) rfl dX0_addMan_35 ?_
      refine lv_iload_n hx hb dX0_addMan_38 rfl (lv_at hl 2 rfl) ?_
      obtain ⟨c_6, hf⟩ := gi_e hf
      refine va_iast hx hb hK hP hD hS 5 0 cH_at5 rfl c_6 dX0_addMan_39 (fun H locs hP hD hS => ?_)
      obtain ⟨h_7, eh_7, hf⟩ := nq_e hf
      rw [cH_su5, ← eh_7] at hP hD
      refine lv_aload_n hx hb dX0_addMan_40 rfl (lv_at hl 0 rfl) ?_
      refine va_get (D := D) (ci := 0) (v := .ref (A 6)) (C := RX0) (T := TX0) (N := 12) hx hb hts hw0 hown hK hP 0 cH_at0 rfl 7 (by decide) k27 (fun _ h9 => h9) rfl dX0_addMan_41 ?_
      refine lv_aload_n hx hb dX0_addMan_44 rfl (lv_at hl 0 rfl) ?_
      refine va_get (D := D) (ci := 0) (v := .int (h_7 16 1)) (C := RX0) (T := TX0) (N := 12) hx hb hts hw0 hown hK hP 0 cH_at0 rfl 4 (by decide) k40 (fun _ h9 => h9) rfl dX0_addMan_45 ?_
      refine lv_iload_n hx hb dX0_addMan_48 rfl (lv_at hl 3 rfl) ?_
      obtain ⟨c_8, hf⟩ := gi_e hf
      refine va_iast hx hb hK hP hD hS 6 0 cH_at6 rfl c_8 dX0_addMan_49 (fun H locs hP hD hS => ?_)
      obtain ⟨h_9, eh_9, hf⟩ := nq_e hf
      rw [cH_su6, ← eh_9] at hP hD
      refine lv_aload_n hx hb dX0_addMan_50 rfl (lv_at hl 0 rfl) ?_
      refine va_get (D := D) (ci := 0) (v := .ref (A 7)) (C := RX0) (T := TX0) (N := 12) hx hb hts hw0 hown hK hP 0 cH_at0 rfl 8 (by decide) k30 (fun _ h9 => h9) rfl dX0_addMan_51 ?_
      refine lv_aload_n hx hb dX0_addMan_54 rfl (lv_at hl 0 rfl) ?_
      refine va_get (D := D) (ci := 0) (v := .int (h_9 16 1)) (C := RX0) (T := TX0) (N := 12) hx hb hts hw0 hown hK hP 0 cH_at0 rfl 4 (by decide) k40 (fun _ h9 => h9) rfl dX0_addMan_55 ?_
      refine lv_iload hx hb dX0_addMan_58 (lv_at hl 4 rfl) ?_
      obtain ⟨c_10, hf⟩ := gi_e hf
      refine va_iast hx hb hK hP hD hS 7 0 cH_at7 rfl c_10 dX0_addMan_60 (fun H locs hP hD hS => ?_)
      obtain ⟨h_11, eh_11, hf⟩ := nq_e hf
      rw [cH_su7, ← eh_11] at hP hD
      refine lv_aload_n hx hb dX0_addMan_61 rfl (lv_at hl 0 rfl) ?_
      refine lv_dup hx hb dX0_addMan_62 rfl ?_
      refine va_get (D := D) (ci := 0) (v := .int (h_11 16 1)) (C := RX0) (T := TX0) (N := 12) hx hb hts hw0 hown hK hP 0 cH_at0 rfl 4 (by decide) k40 (fun _ h9 => h9) rfl dX0_addMan_63 ?_
      refine lv_iconst (v := 1) hx hb dX0_addMan_66 (by decide) ?_
      refine lv_iadd hx hb dX0_addMan_67 ?_
      refine va_put (D := D) (ci := 0) (v := .int ((h_11 16 1) + (1 : Int32))) (ty := .int) (C := RX0) (T := TX0) (N := 12) hx hb hts hw0 tyX0 tyX0_ok nmX0 hown hK hP hD hS 0 cH_at0 rfl 4 (by decide) k40 (fun _ h9 => h9) rfl (tyX0_ok 4 (by decide)) rfl rfl (Nat.le_of_ble_eq_true rfl) dX0_addMan_68 (fun H locs hP hD hS => ?_)
      obtain ⟨h_12, eh_12, hf⟩ := nq_e hf
      rw [cH_sc0_4, ← eh_12] at hP hD
      refine lv_iconst (v := 1) hx hb dX0_addMan_71 (by decide) ?_
      exact hend ((1 : Int32), h_12) H locs _ _ hf hP hS dX0_addMan_72
    · replace hf := if_t c_3 hf
      refine lv_iconst (v := 0) hx hb dX0_addMan_18 (by decide) ?_
      exact hend ((0 : Int32), h) H locs _ _ hf hP hS dX0_addMan_19

def rm_X0_isIn : Room := { frames := 0, cells := 0, slots := 0, locals := 0 }
theorem hd_X0_isIn : yX0_isIn.cls = RX0 ∧ yX0_isIn.cls ≠ "java/lang/invoke/MethodHandle" ∧ yX0_isIn.cls ≠ "java/lang/invoke/VarHandle" ∧ (parseMethodDescriptor yX0_isIn.desc).map (fun d => d.parameters.length) = some 1 := by decide +kernel
set_option maxRecDepth 100000 in
set_option maxHeartbeats 4000000 in
theorem c_X0_isIn (l : Launch) (D : va_G) (cI : ClassId) (A : Nat → Nat) (h : St) (p1 : Int32) (r : Int32) (hf : f_X0_isIn h p1 = some r) : Ct l yX0_isIn wsX0_isIn rm_X0_isIn D cI (cH cI A h) (cH cI A h) [.ref (A 0), .int p1] (some (.int r)) := by
  unfold f_X0_isIn at hf
  obtain ⟨hz, hf⟩ := fz_e hf
  refine Ct.ofZ hz (cc := cX0_isIn) (maxL := 2) (by decide +kernel) rfl (Nat.le_of_ble_eq_true rfl) ?_
  intro p e s m args below meth c AA Q H locs ls hx hb hml hown hts hA hK hP hD hS hl hend0
  have hend : ∀ (r1 : Int32) (H : Heap) (locs : List Loc) (pc : Nat) (ls : Array Slot), some r1 = some r → va_P D vwCl (cH cI A h) H → va_S AA s.heap H locs → decode cX0_isIn pc = .ok (.ireturn, 1) → W p l e rm_X0_isIn s m args below meth c H locs 0 0 Q (F0 m pc ls [.int r1]) := by
    intro r1 H locs pc ls e1 hP hS hd; cases e1; exact hend0 H locs pc ls hP hS hd
  clear hend0
  have hw0 : ∀ w ∈ wsX00, w ∈ wsX0_isIn := by decide +kernel
  have k18 := hts (.fieldLink RX0 18 "AnchorsForConfession$Harbour" "outFor" "[I") (by decide +kernel)
  replace hl : lv_has ls 2 [(0, .ref (A 0)), (1, .int p1)] := hl
  refine lv_aload_n hx hb dX0_isIn_0 rfl (lv_at hl 0 rfl) ?_
  refine va_get (D := D) (ci := 0) (v := .ref (A 3)) (C := RX0) (T := TX0) (N := 12) hx hb hts hw0 hown hK hP 0 cH_at0 rfl 3 (by decide) k18 (fun _ h9 => h9) rfl dX0_isIn_1 ?_
  refine lv_iload_n hx hb dX0_isIn_4 rfl (lv_at hl 1 rfl) ?_
  obtain ⟨c_1, hf⟩ := gi_e hf
  refine va_iald hx hb hK hP 3 0 cH_at3 rfl c_1 dX0_isIn_5 ?_
  refine lv_if_ne (tgt := 13) hx hb dX0_isIn_6 (by decide) (fun c_2 => ?_) (fun c_2 => ?_)
  · replace hf := if_f c_2 hf
    refine lv_iconst (v := 0) hx hb dX0_isIn_13 (by decide) ?_
    exact hend (0 : Int32) H locs _ _ hf hP hS dX0_isIn_14
  · replace hf := if_t c_2 hf
    refine lv_iconst (v := 1) hx hb dX0_isIn_9 (by decide) ?_
    refine lv_goto (tgt := 14) hx hb dX0_isIn_10 (by decide) ?_
    exact hend (1 : Int32) H locs _ _ hf hP hS dX0_isIn_14

def rm_X0_isEbb : Room := { frames := 0, cells := 0, slots := 0, locals := 0 }
theorem hd_X0_isEbb : yX0_isEbb.cls = RX0 ∧ yX0_isEbb.cls ≠ "java/lang/invoke/MethodHandle" ∧ yX0_isEbb.cls ≠ "java/lang/invoke/VarHandle" ∧ (parseMethodDescriptor yX0_isEbb.desc).map (fun d => d.parameters.length) = some 0 := by decide +kernel
set_option maxRecDepth 100000 in
set_option maxHeartbeats 4000000 in
theorem c_X0_isEbb (l : Launch) (D : va_G) (cI : ClassId) (A : Nat → Nat) (h : St) (r : Int32) (hf : f_X0_isEbb h = some r) : Ct l yX0_isEbb wsX0_isEbb rm_X0_isEbb D cI (cH cI A h) (cH cI A h) [.ref (A 0)] (some (.int r)) := by
  unfold f_X0_isEbb at hf
  obtain ⟨hz, hf⟩ := fz_e hf
  refine Ct.ofZ hz (cc := cX0_isEbb) (maxL := 1) (by decide +kernel) rfl (Nat.le_of_ble_eq_true rfl) ?_
  intro p e s m args below meth c AA Q H locs ls hx hb hml hown hts hA hK hP hD hS hl hend0
  have hend : ∀ (r1 : Int32) (H : Heap) (locs : List Loc) (pc : Nat) (ls : Array Slot), some r1 = some r → va_P D vwCl (cH cI A h) H → va_S AA s.heap H locs → decode cX0_isEbb pc = .ok (.ireturn, 1) → W p l e rm_X0_isEbb s m args below meth c H locs 0 0 Q (F0 m pc ls [.int r1]) := by
    intro r1 H locs pc ls e1 hP hS hd; cases e1; exact hend0 H locs pc ls hP hS hd
  clear hend0
  have hw0 : ∀ w ∈ wsX00, w ∈ wsX0_isEbb := by decide +kernel
  have k46 := hts (.fieldLink RX0 46 "AnchorsForConfession$Harbour" "tide" "I") (by decide +kernel)
  replace hl : lv_has ls 1 [(0, .ref (A 0))] := hl
  refine lv_aload_n hx hb dX0_isEbb_0 rfl (lv_at hl 0 rfl) ?_
  refine va_get (D := D) (ci := 0) (v := .int (h 16 3)) (C := RX0) (T := TX0) (N := 12) hx hb hts hw0 hown hK hP 0 cH_at0 rfl 10 (by decide) k46 (fun _ h9 => h9) rfl dX0_isEbb_1 ?_
  refine lv_iconst (v := 2) hx hb dX0_isEbb_4 (by decide) ?_
  refine lv_irem hx hb dX0_isEbb_5 (by decide) ?_
  refine lv_if_eq (tgt := 13) hx hb dX0_isEbb_6 (by decide) (fun c_2 => ?_) (fun c_2 => ?_)
  · replace hf := if_t c_2 hf
    refine lv_iconst (v := 0) hx hb dX0_isEbb_13 (by decide) ?_
    exact hend (0 : Int32) H locs _ _ hf hP hS dX0_isEbb_14
  · replace hf := if_f c_2 hf
    refine lv_iconst (v := 1) hx hb dX0_isEbb_9 (by decide) ?_
    refine lv_goto (tgt := 14) hx hb dX0_isEbb_10 (by decide) ?_
    exact hend (1 : Int32) H locs _ _ hf hP hS dX0_isEbb_14

def rm_X0_holds : Room := { frames := 1, cells := 0, slots := 0, locals := 20 }
theorem hd_X0_holds : yX0_holds.cls = RX0 ∧ yX0_holds.cls ≠ "java/lang/invoke/MethodHandle" ∧ yX0_holds.cls ≠ "java/lang/invoke/VarHandle" ∧ (parseMethodDescriptor yX0_holds.desc).map (fun d => d.parameters.length) = some 1 := by decide +kernel
set_option maxRecDepth 100000 in
set_option maxHeartbeats 4000000 in
theorem c_X0_holds (l : Launch) (D : va_G) (cI : ClassId) (A : Nat → Nat) (h : St) (p1 : Int32) (r : Int32) (hf : f_X0_holds h p1 = some r) : Ct l yX0_holds wsX0_holds rm_X0_holds D cI (cH cI A h) (cH cI A h) [.ref (A 0), .int p1] (some (.int r)) := by
  unfold f_X0_holds at hf
  refine Ct.ofI (cc := cX0_holds) (maxL := 3) (by decide +kernel) rfl (Nat.le_of_ble_eq_true rfl) ?_
  intro p e s m args below meth c AA Q H locs ls hx hb hml hown hts hA hK hP hD hS hl hend0
  have hend : ∀ (r1 : Int32) (H : Heap) (locs : List Loc) (pc : Nat) (ls : Array Slot), some r1 = some r → va_P D vwCl (cH cI A h) H → va_S AA s.heap H locs → decode cX0_holds pc = .ok (.ireturn, 1) → W p l e rm_X0_holds s m args below meth c H locs 0 0 Q (F0 m pc ls [.int r1]) := by
    intro r1 H locs pc ls e1 hP hS hd; cases e1; exact hend0 H locs pc ls hP hS hd
  clear hend0
  have hw0 : ∀ w ∈ wsX00, w ∈ wsX0_holds := by decide +kernel
  have k11 := hts (.fieldLink RX0 11 "AnchorsForConfession$Harbour" "heavy" "[I") (by decide +kernel)
  have k43 := hts (.fieldLink RX0 43 "AnchorsForConfession$Harbour" "heard" "I") (by decide +kernel)
  replace hl : lv_has ls 3 [(0, .ref (A 0)), (1, .int p1)] := hl
  refine lv_aload_n hx hb dX0_holds_0 rfl (lv_at hl 0 rfl) ?_
  obtain ⟨a_1, ha_1, hf⟩ := bd_e hf
  refine Ct.callV (As := []) (rest := []) (st1 := [.int a_1]) (c_X0_isEbb l D cI A h a_1 ha_1) hx hb hml hown hts (cwV 0 hts gX0_holds_X0_isEbb rfl rfl rfl hd_X0_isEbb ⟨Nat.le_of_ble_eq_true rfl, Nat.le_of_ble_eq_true rfl⟩) (va_recv hK hP (ci := 0) (q0 := 0) rfl cH_at0) (Ln.id rfl) hA hK hP hD hS rfl hl.1 rfl rfl (Nat.le_of_ble_eq_true rfl) dX0_holds_1 (fun H locs hP hD hS => ?_)
  refine lv_if_eq (tgt := 11) hx hb dX0_holds_4 (by decide) (fun c_2 => ?_) (fun c_2 => ?_)
  · replace hf := if_t c_2 hf
    refine lv_iconst (v := 2) hx hb dX0_holds_11 (by decide) ?_
    refine lv_istore_n (lv' := [(2, .int (2 : Int32)), (0, .ref (A 0)), (1, .int p1)]) hx hb dX0_holds_12 rfl hl (by decide) rfl (fun ls hl => ?_)
    refine lv_iconst (v := 3) hx hb dX0_holds_13 (by decide) ?_
    refine lv_aload_n hx hb dX0_holds_14 rfl (lv_at hl 1 rfl) ?_
    refine va_get (D := D) (ci := 0) (v := .ref (A 1)) (C := RX0) (T := TX0) (N := 12) hx hb hts hw0 hown hK hP 0 cH_at0 rfl 1 (by decide) k11 (fun _ h9 => h9) rfl dX0_holds_15 ?_
    refine lv_iload_n hx hb dX0_holds_18 rfl (lv_at hl 2 rfl) ?_
    obtain ⟨c_3, hf⟩ := gi_e hf
    refine va_iald hx hb hK hP 1 0 cH_at1 rfl c_3 dX0_holds_19 ?_
    refine lv_imul hx hb dX0_holds_20 ?_
    refine lv_iconst (v := 2) hx hb dX0_holds_21 (by decide) ?_
    refine lv_iadd hx hb dX0_holds_22 ?_
    refine lv_iload_n hx hb dX0_holds_23 rfl (lv_at hl 0 rfl) ?_
    refine lv_iadd hx hb dX0_holds_24 ?_
    refine lv_aload_n hx hb dX0_holds_25 rfl (lv_at hl 1 rfl) ?_
    refine va_get (D := D) (ci := 0) (v := .int (h 16 2)) (C := RX0) (T := TX0) (N := 12) hx hb hts hw0 hown hK hP 0 cH_at0 rfl 9 (by decide) k43 (fun _ h9 => h9) rfl dX0_holds_26 ?_
    refine lv_bipush (v := 10) hx hb dX0_holds_29 (by decide +kernel) ?_
    refine lv_idiv hx hb dX0_holds_31 (by decide) ?_
    refine lv_iadd hx hb dX0_holds_32 ?_
    exact hend (((((3 : Int32) * (h 1 (p1).toNatClampNeg)) + (2 : Int32)) + (2 : Int32)) + ((h 16 2) / (10 : Int32))) H locs _ _ hf hP hS dX0_holds_33
  · replace hf := if_f c_2 hf
    refine lv_iconst (v := 0) hx hb dX0_holds_7 (by decide) ?_
    refine lv_goto (tgt := 12) hx hb dX0_holds_8 (by decide) ?_
    refine lv_istore_n (lv' := [(2, .int (0 : Int32)), (0, .ref (A 0)), (1, .int p1)]) hx hb dX0_holds_12 rfl hl (by decide) rfl (fun ls hl => ?_)
    refine lv_iconst (v := 3) hx hb dX0_holds_13 (by decide) ?_
    refine lv_aload_n hx hb dX0_holds_14 rfl (lv_at hl 1 rfl) ?_
    refine va_get (D := D) (ci := 0) (v := .ref (A 1)) (C := RX0) (T := TX0) (N := 12) hx hb hts hw0 hown hK hP 0 cH_at0 rfl 1 (by decide) k11 (fun _ h9 => h9) rfl dX0_holds_15 ?_
    refine lv_iload_n hx hb dX0_holds_18 rfl (lv_at hl 2 rfl) ?_
    obtain ⟨c_5, hf⟩ := gi_e hf
    refine va_iald hx hb hK hP 1 0 cH_at1 rfl c_5 dX0_holds_19 ?_
    refine lv_imul hx hb dX0_holds_20 ?_
    refine lv_iconst (v := 2) hx hb dX0_holds_21 (by decide) ?_
    refine lv_iadd hx hb dX0_holds_22 ?_
    refine lv_iload_n hx hb dX0_holds_23 rfl (lv_at hl 0 rfl) ?_
    refine lv_iadd hx hb dX0_holds_24 ?_
    refine lv_aload_n hx hb dX0_holds_25 rfl (lv_at hl 1 rfl) ?_
    refine va_get (D := D) (ci := 0) (v := .int (h 16 2)) (C := RX0) (T := TX0) (N := 12) hx hb hts hw0 hown hK hP 0 cH_at0 rfl 9 (by decide) k43 (fun _ h9 => h9) rfl dX0_holds_26 ?_
    refine lv_bipush (v := 10) hx hb dX0_holds_29 (by decide +kernel) ?_
    refine lv_idiv hx hb dX0_holds_31 (by decide) ?_
    refine lv_iadd hx hb dX0_holds_32 ?_
    exact hend (((((3 : Int32) * (h 1 (p1).toNatClampNeg)) + (2 : Int32)) + (0 : Int32)) + ((h 16 2) / (10 : Int32))) H locs _ _ hf hP hS dX0_holds_33

def rm_X0_lacks : Room := { frames := 2, cells := 0, slots := 0, locals := 42 }
theorem hd_X0_lacks : yX0_lacks.cls = RX0 ∧ yX0_lacks.cls ≠ "java/lang/invoke/MethodHandle" ∧ yX0_lacks.cls ≠ "java/lang/invoke/VarHandle" ∧ (parseMethodDescriptor yX0_lacks.desc).map (fun d => d.parameters.length) = some 1 := by decide +kernel
set_option maxRecDepth 100000 in
set_option maxHeartbeats 4000000 in
theorem c_X0_lacks (l : Launch) (D : va_G) (cI : ClassId) (A : Nat → Nat) (h : St) (p1 : Int32) (r : Int32) (hf : f_X0_lacks h p1 = some r) : Ct l yX0_lacks wsX0_lacks rm_X0_lacks D cI (cH cI A h) (cH cI A h) [.ref (A 0), .int p1] (some (.int r)) := by
  unfold f_X0_lacks at hf
  refine Ct.ofI (cc := cX0_lacks) (maxL := 2) (by decide +kernel) rfl (Nat.le_of_ble_eq_true rfl) ?_
  intro p e s m args below meth c AA Q H locs ls hx hb hml hown hts hA hK hP hD hS hl hend0
  have hend : ∀ (r1 : Int32) (H : Heap) (locs : List Loc) (pc : Nat) (ls : Array Slot), some r1 = some r → va_P D vwCl (cH cI A h) H → va_S AA s.heap H locs → decode cX0_lacks pc = .ok (.ireturn, 1) → W p l e rm_X0_lacks s m args below meth c H locs 0 0 Q (F0 m pc ls [.int r1]) := by
    intro r1 H locs pc ls e1 hP hS hd; cases e1; exact hend0 H locs pc ls hP hS hd
  clear hend0
  have hw0 : ∀ w ∈ wsX00, w ∈ wsX0_lacks := by decide +kernel
  have k15 := hts (.fieldLink RX0 15 "AnchorsForConfession$Harbour" "loose" "[I") (by decide +kernel)
  have km64 := hts (.methodLink RX0 64 Lib.Math.max.name) (by decide +kernel)
  have ks64 := hts (.static Lib.Math.max.name) (by decide +kernel)
  have ki64 := hts (.initialized "java/lang/Math") (by decide +kernel)
  have kk64 := hts (.code Lib.Math.max.name Lib.Math.max.code 2 (some .int)) (by decide +kernel)
  replace hl : lv_has ls 2 [(0, .ref (A 0)), (1, .int p1)] := hl
  refine lv_aload_n hx hb dX0_lacks_0 rfl (lv_at hl 0 rfl) ?_
  refine lv_iload_n hx hb dX0_lacks_1 rfl (lv_at hl 1 rfl) ?_
  obtain ⟨a_1, ha_1, hf⟩ := bd_e hf
  refine Ct.callV (As := [.int p1]) (rest := []) (st1 := [.int a_1]) (c_X0_isIn l D cI A h p1 a_1 ha_1) hx hb hml hown hts (cwV 1 hts gX0_lacks_X0_isIn rfl rfl rfl hd_X0_isIn ⟨Nat.le_of_ble_eq_true rfl, Nat.le_of_ble_eq_true rfl⟩) (va_recv hK hP (ci := 0) (q0 := 0) rfl cH_at0) (Ln.id rfl) hA hK hP hD hS rfl hl.1 rfl rfl (Nat.le_of_ble_eq_true rfl) dX0_lacks_2 (fun H locs hP hD hS => ?_)
  refine lv_if_eq (tgt := 27) hx hb dX0_lacks_5 (by decide) (fun c_2 => ?_) (fun c_2 => ?_)
  · replace hf := if_t c_2 hf
    refine lv_iconst (v := 0) hx hb dX0_lacks_27 (by decide) ?_
    exact hend (0 : Int32) H locs _ _ hf hP hS dX0_lacks_28
  · replace hf := if_f c_2 hf
    refine lv_iconst (v := 0) hx hb dX0_lacks_8 (by decide) ?_
    refine lv_aload_n hx hb dX0_lacks_9 rfl (lv_at hl 0 rfl) ?_
    refine lv_iload_n hx hb dX0_lacks_10 rfl (lv_at hl 1 rfl) ?_
    obtain ⟨a_3, ha_3, hf⟩ := bd_e hf
    refine Ct.callV (As := [.int p1]) (rest := [.int (0 : Int32)]) (st1 := [.int a_3, .int (0 : Int32)]) (c_X0_holds l D cI A h p1 a_3 ha_3) hx hb hml hown hts (cwV 1 hts gX0_lacks_X0_holds rfl rfl rfl hd_X0_holds ⟨Nat.le_of_ble_eq_true rfl, Nat.le_of_ble_eq_true rfl⟩) (va_recv hK hP (ci := 0) (q0 := 0) rfl cH_at0) (Ln.id rfl) hA hK hP hD hS rfl hl.1 rfl rfl (Nat.le_of_ble_eq_true rfl) dX0_lacks_11 (fun H locs hP hD hS => ?_)
    refine lv_aload_n hx hb dX0_lacks_14 rfl (lv_at hl 0 rfl) ?_
    refine va_get (D := D) (ci := 0) (v := .ref (A 2)) (C := RX0) (T := TX0) (N := 12) hx hb hts hw0 hown hK hP 0 cH_at0 rfl 2 (by decide) k15 (fun _ h9 => h9) rfl dX0_lacks_15 ?_
    refine lv_iload_n hx hb dX0_lacks_18 rfl (lv_at hl 1 rfl) ?_
    obtain ⟨c_4, hf⟩ := gi_e hf
    refine va_iald hx hb hK hP 2 0 cH_at2 rfl c_4 dX0_lacks_19 ?_
    refine lv_isub hx hb dX0_lacks_20 ?_
    refine va_mmax hx hb (by rw [hml]; exact hl.1.symm) hown km64 ks64 ki64 kk64 (Nat.le_of_ble_eq_true rfl) (Nat.le_of_ble_eq_true rfl) (Nat.zero_le _) (Nat.zero_le _) dX0_lacks_21 ?_
    refine lv_goto (tgt := 28) hx hb dX0_lacks_24 (by decide) ?_
    exact hend (if (0 : Int32) < (a_3 - (h 2 (p1).toNatClampNeg)) then (a_3 - (h 2 (p1).toNatClampNeg)) else (0 : Int32)) H locs _ _ hf hP hS dX0_lacks_28

def rm_X0_worth : Room := { frames := 1, cells := 0, slots := 0, locals := 21 }
theorem hd_X0_worth : yX0_worth.cls = RX0 ∧ yX0_worth.cls ≠ "java/lang/invoke/MethodHandle" ∧ yX0_worth.cls ≠ "java/lang/invoke/VarHandle" ∧ (parseMethodDescriptor yX0_worth.desc).map (fun d => d.parameters.length) = some 1 := by decide +kernel
set_option maxRecDepth 100000 in
set_option maxHeartbeats 4000000 in
theorem c_X0_worth (l : Launch) (D : va_G) (cI : ClassId) (A : Nat → Nat) (h : St) (p1 : Int32) (r : Int32) (hf : f_X0_worth h p1 = some r) : Ct l yX0_worth wsX0_worth rm_X0_worth D cI (cH cI A h) (cH cI A h) [.ref (A 0), .int p1] (some (.int r)) := by
  unfold f_X0_worth at hf
  refine Ct.ofI (cc := cX0_worth) (maxL := 4) (by decide +kernel) rfl (Nat.le_of_ble_eq_true rfl) ?_
  intro p e s m args below meth c AA Q H locs ls hx hb hml hown hts hA hK hP hD hS hl hend0
  have hend : ∀ (r1 : Int32) (H : Heap) (locs : List Loc) (pc : Nat) (ls : Array Slot), some r1 = some r → va_P D vwCl (cH cI A h) H → va_S AA s.heap H locs → decode cX0_worth pc = .ok (.ireturn, 1) → W p l e rm_X0_worth s m args below meth c H locs 0 0 Q (F0 m pc ls [.int r1]) := by
    intro r1 H locs pc ls e1 hP hS hd; cases e1; exact hend0 H locs pc ls hP hS hd
  clear hend0
  have hw0 : ∀ w ∈ wsX00, w ∈ wsX0_worth := by decide +kernel
  have k21 := hts (.fieldLink RX0 21 "AnchorsForConfession$Harbour" "kind" "[I") (by decide +kernel)
  have k24 := hts (.fieldLink RX0 24 "AnchorsForConfession$Harbour" "figure" "[I") (by decide +kernel)
  have km64 := hts (.methodLink RX0 64 Lib.Math.max.name) (by decide +kernel)
  have ks64 := hts (.static Lib.Math.max.name) (by decide +kernel)
  have ki64 := hts (.initialized "java/lang/Math") (by decide +kernel)
  have kk64 := hts (.code Lib.Math.max.name Lib.Math.max.code 2 (some .int)) (by decide +kernel)
  replace hl : lv_has ls 4 [(0, .ref (A 0)), (1, .int p1)] := hl
  refine lv_aload_n hx hb dX0_worth_0 rfl (lv_at hl 0 rfl) ?_
  refine va_get (D := D) (ci := 0) (v := .ref (A 5)) (C := RX0) (T := TX0) (N := 12) hx hb hts hw0 hown hK hP 0 cH_at0 rfl 6 (by decide) k24 (fun _ h9 => h9) rfl dX0_worth_1 ?_
  refine lv_iload_n hx hb dX0_worth_4 rfl (lv_at hl 1 rfl) ?_
  obtain ⟨c_1, hf⟩ := gi_e hf
  refine va_iald hx hb hK hP 5 0 cH_at5 rfl c_1 dX0_worth_5 ?_
  refine lv_iconst (v := 1) hx hb dX0_worth_6 (by decide) ?_
  refine lv_iadd hx hb dX0_worth_7 ?_
  refine lv_topi (fun v_2 ev_2 => ?_)
  replace hf := nm_at ev_2 hf
  refine lv_istore_n (lv' := [(2, .int v_2), (0, .ref (A 0)), (1, .int p1)]) hx hb dX0_worth_8 rfl hl (by decide) rfl (fun ls hl => ?_)
  refine lv_aload_n hx hb dX0_worth_9 rfl (lv_at hl 1 rfl) ?_
  obtain ⟨a_3, ha_3, hf⟩ := bd_e hf
  refine Ct.callV (As := []) (rest := []) (st1 := [.int a_3]) (c_X0_isEbb l D cI A h a_3 ha_3) hx hb hml hown hts (cwV 0 hts gX0_worth_X0_isEbb rfl rfl rfl hd_X0_isEbb ⟨Nat.le_of_ble_eq_true rfl, Nat.le_of_ble_eq_true rfl⟩) (va_recv hK hP (ci := 0) (q0 := 0) rfl cH_at0) (Ln.id rfl) hA hK hP hD hS rfl hl.1 rfl rfl (Nat.le_of_ble_eq_true rfl) dX0_worth_10 (fun H locs hP hD hS => ?_)
  refine lv_if_eq (tgt := 22) hx hb dX0_worth_13 (by decide) (fun c_4 => ?_) (fun c_4 => ?_)
  · replace hf := if_t c_4 hf
    refine lv_iload_n hx hb dX0_worth_22 rfl (lv_at hl 0 rfl) ?_
    refine lv_istore_n (lv' := [(3, .int v_2), (2, .int v_2), (0, .ref (A 0)), (1, .int p1)]) hx hb dX0_worth_23 rfl hl (by decide) rfl (fun ls hl => ?_)
    refine lv_aload_n hx hb dX0_worth_24 rfl (lv_at hl 2 rfl) ?_
    refine va_get (D := D) (ci := 0) (v := .ref (A 4)) (C := RX0) (T := TX0) (N := 12) hx hb hts hw0 hown hK hP 0 cH_at0 rfl 5 (by decide) k21 (fun _ h9 => h9) rfl dX0_worth_25 ?_
    refine lv_iload_n hx hb dX0_worth_28 rfl (lv_at hl 3 rfl) ?_
    obtain ⟨c_5, hf⟩ := gi_e hf
    refine va_iald hx hb hK hP 4 0 cH_at4 rfl c_5 dX0_worth_29 ?_
    by_cases c_6 : (h 4 (p1).toNatClampNeg) = 0
    · replace hf := if_t c_6 hf
      refine lv_tableIn (off := 34) (tgt := 64) hx hb dX0_worth_30 (by rw [c_6]; decide +kernel) (by rw [c_6]; decide +kernel) (by rw [c_6]; decide +kernel) (by decide) ?_
      refine lv_iload_n hx hb dX0_worth_64 rfl (lv_at hl 1 rfl) ?_
      exact hend v_2 H locs _ _ hf hP hS dX0_worth_65
    · replace hf := if_f c_6 hf
      by_cases c_7 : (h 4 (p1).toNatClampNeg) = 1
      · replace hf := if_t c_7 hf
        refine lv_tableIn (off := 50) (tgt := 80) hx hb dX0_worth_30 (by rw [c_7]; decide +kernel) (by rw [c_7]; decide +kernel) (by rw [c_7]; decide +kernel) (by decide) ?_
        refine lv_iconst (v := 0) hx hb dX0_worth_80 (by decide) ?_
        exact hend (0 : Int32) H locs _ _ hf hP hS dX0_worth_81
      · replace hf := if_f c_7 hf
        by_cases c_8 : (h 4 (p1).toNatClampNeg) = 2
        · replace hf := if_t c_8 hf
          refine lv_tableIn (off := 36) (tgt := 66) hx hb dX0_worth_30 (by rw [c_8]; decide +kernel) (by rw [c_8]; decide +kernel) (by rw [c_8]; decide +kernel) (by decide) ?_
          refine lv_iload_n hx hb dX0_worth_66 rfl (lv_at hl 0 rfl) ?_
          exact hend v_2 H locs _ _ hf hP hS dX0_worth_67
        · replace hf := if_f c_8 hf
          by_cases c_9 : (h 4 (p1).toNatClampNeg) = 3
          · replace hf := if_t c_9 hf
            refine lv_tableIn (off := 38) (tgt := 68) hx hb dX0_worth_30 (by rw [c_9]; decide +kernel) (by rw [c_9]; decide +kernel) (by rw [c_9]; decide +kernel) (by decide) ?_
            refine lv_iconst (v := 1) hx hb dX0_worth_68 (by decide) ?_
            refine lv_iload_n hx hb dX0_worth_69 rfl (lv_at hl 1 rfl) ?_
            refine lv_iconst (v := 2) hx hb dX0_worth_70 (by decide) ?_
            refine lv_idiv hx hb dX0_worth_71 (by decide) ?_
            refine va_mmax hx hb (by rw [hml]; exact hl.1.symm) hown km64 ks64 ki64 kk64 (Nat.le_of_ble_eq_true rfl) (Nat.le_of_ble_eq_true rfl) (Nat.zero_le _) (Nat.zero_le _) dX0_worth_72 ?_
            exact hend (if (1 : Int32) < (v_2 / (2 : Int32)) then (v_2 / (2 : Int32)) else (1 : Int32)) H locs _ _ hf hP hS dX0_worth_75
          · replace hf := if_f c_9 hf
            by_cases c_11 : (h 4 (p1).toNatClampNeg) = 4
            · replace hf := if_t c_11 hf
              refine lv_tableIn (off := 46) (tgt := 76) hx hb dX0_worth_30 (by rw [c_11]; decide +kernel) (by rw [c_11]; decide +kernel) (by rw [c_11]; decide +kernel) (by decide) ?_
              refine lv_iload_n hx hb dX0_worth_76 rfl (lv_at hl 0 rfl) ?_
              refine lv_iconst (v := 3) hx hb dX0_worth_77 (by decide) ?_
              refine lv_iadd hx hb dX0_worth_78 ?_
              exact hend (v_2 + (3 : Int32)) H locs _ _ hf hP hS dX0_worth_79
            · replace hf := if_f c_11 hf
              have ht : ((h 4 (p1).toNatClampNeg)).toInt < 0 ∨ 4 < ((h 4 (p1).toNatClampNeg)).toInt := by
                have t0 := lv_neT (a := 0) c_6 (by decide +kernel)
                have t1 := lv_neT (a := 1) c_7 (by decide +kernel)
                have t2 := lv_neT (a := 2) c_8 (by decide +kernel)
                have t3 := lv_neT (a := 3) c_9 (by decide +kernel)
                have t4 := lv_neT (a := 4) c_11 (by decide +kernel)
                omega
              refine lv_tableOut (tgt := 80) hx hb dX0_worth_30 ht (by decide) ?_
              refine lv_iconst (v := 0) hx hb dX0_worth_80 (by decide) ?_
              exact hend (0 : Int32) H locs _ _ hf hP hS dX0_worth_81
  · replace hf := if_f c_4 hf
    refine lv_iconst (v := 2) hx hb dX0_worth_16 (by decide) ?_
    refine lv_iload_n hx hb dX0_worth_17 rfl (lv_at hl 0 rfl) ?_
    refine lv_imul hx hb dX0_worth_18 ?_
    refine lv_goto (tgt := 23) hx hb dX0_worth_19 (by decide) ?_
    refine lv_topi (fun v_12 ev_12 => ?_)
    replace hf := nm_at ev_12 hf
    refine lv_istore_n (lv' := [(3, .int v_12), (2, .int v_2), (0, .ref (A 0)), (1, .int p1)]) hx hb dX0_worth_23 rfl hl (by decide) rfl (fun ls hl => ?_)
    refine lv_aload_n hx hb dX0_worth_24 rfl (lv_at hl 2 rfl) ?_
    refine va_get (D := D) (ci := 0) (v := .ref (A 4)) (C := RX0) (T := TX0) (N := 12) hx hb hts hw0 hown hK hP 0 cH_at0 rfl 5 (by decide) k21 (fun _ h9 => h9) rfl dX0_worth_25 ?_
    refine lv_iload_n hx hb dX0_worth_28 rfl (lv_at hl 3 rfl) ?_
    obtain ⟨c_13, hf⟩ := gi_e hf
    refine va_iald hx hb hK hP 4 0 cH_at4 rfl c_13 dX0_worth_29 ?_
    by_cases c_14 : (h 4 (p1).toNatClampNeg) = 0
    · replace hf := if_t c_14 hf
      refine lv_tableIn (off := 34) (tgt := 64) hx hb dX0_worth_30 (by rw [c_14]; decide +kernel) (by rw [c_14]; decide +kernel) (by rw [c_14]; decide +kernel) (by decide) ?_
      refine lv_iload_n hx hb dX0_worth_64 rfl (lv_at hl 1 rfl) ?_
      exact hend v_2 H locs _ _ hf hP hS dX0_worth_65
    · replace hf := if_f c_14 hf
      by_cases c_15 : (h 4 (p1).toNatClampNeg) = 1
      · replace hf := if_t c_15 hf
        refine lv_tableIn (off := 50) (tgt := 80) hx hb dX0_worth_30 (by rw [c_15]; decide +kernel) (by rw [c_15]; decide +kernel) (by rw [c_15]; decide +kernel) (by decide) ?_
        refine lv_iconst (v := 0) hx hb dX0_worth_80 (by decide) ?_
        exact hend (0 : Int32) H locs _ _ hf hP hS dX0_worth_81
      · replace hf := if_f c_15 hf
        by_cases c_16 : (h 4 (p1).toNatClampNeg) = 2
        · replace hf := if_t c_16 hf
          refine lv_tableIn (off := 36) (tgt := 66) hx hb dX0_worth_30 (by rw [c_16]; decide +kernel) (by rw [c_16]; decide +kernel) (by rw [c_16]; decide +kernel) (by decide) ?_
          refine lv_iload_n hx hb dX0_worth_66 rfl (lv_at hl 0 rfl) ?_
          exact hend v_12 H locs _ _ hf hP hS dX0_worth_67
        · replace hf := if_f c_16 hf
          by_cases c_17 : (h 4 (p1).toNatClampNeg) = 3
          · replace hf := if_t c_17 hf
            refine lv_tableIn (off := 38) (tgt := 68) hx hb dX0_worth_30 (by rw [c_17]; decide +kernel) (by rw [c_17]; decide +kernel) (by rw [c_17]; decide +kernel) (by decide) ?_
            refine lv_iconst (v := 1) hx hb dX0_worth_68 (by decide) ?_
            refine lv_iload_n hx hb dX0_worth_69 rfl (lv_at hl 1 rfl) ?_
            refine lv_iconst (v := 2) hx hb dX0_worth_70 (by decide) ?_
            refine lv_idiv hx hb dX0_worth_71 (by decide) ?_
            refine va_mmax hx hb (by rw [hml]; exact hl.1.symm) hown km64 ks64 ki64 kk64 (Nat.le_of_ble_eq_true rfl) (Nat.le_of_ble_eq_true rfl) (Nat.zero_le _) (Nat.zero_le _) dX0_worth_72 ?_
            exact hend (if (1 : Int32) < (v_2 / (2 : Int32)) then (v_2 / (2 : Int32)) else (1 : Int32)) H locs _ _ hf hP hS dX0_worth_75
          · replace hf := if_f c_17 hf
            by_cases c_19 : (h 4 (p1).toNatClampNeg) = 4
            · replace hf := if_t c_19 hf
              refine lv_tableIn (off := 46) (tgt := 76) hx hb dX0_worth_30 (by rw [c_19]; decide +kernel) (by rw [c_19]; decide +kernel) (by rw [c_19]; decide +kernel) (by decide) ?_
              refine lv_iload_n hx hb dX0_worth_76 rfl (lv_at hl 0 rfl) ?_
              refine lv_iconst (v := 3) hx hb dX0_worth_77 (by decide) ?_
              refine lv_iadd hx hb dX0_worth_78 ?_
              exact hend (v_12 + (3 : Int32)) H locs _ _ hf hP hS dX0_worth_79
            · replace hf := if_f c_19 hf
              have ht : ((h 4 (p1).toNatClampNeg)).toInt < 0 ∨ 4 < ((h 4 (p1).toNatClampNeg)).toInt := by
                have t0 := lv_neT (a := 0) c_14 (by decide +kernel)
                have t1 := lv_neT (a := 1) c_15 (by decide +kernel)
                have t2 := lv_neT (a := 2) c_16 (by decide +kernel)
                have t3 := lv_neT (a := 3) c_17 (by decide +kernel)
                have t4 := lv_neT (a := 4) c_19 (by decide +kernel)
                omega
              refine lv_tableOut (tgt := 80) hx hb dX0_worth_30 ht (by decide) ?_
              refine lv_iconst (v := 0) hx hb dX0_worth_80 (by decide) ?_
              exact hend (0 : Int32) H locs _ _ hf hP hS dX0_worth_81

def rm_X0_pool : Room := { frames := 2, cells := 0, slots := 0, locals := 44 }
theorem hd_X0_pool : yX0_pool.cls = RX0 ∧ yX0_pool.cls ≠ "java/lang/invoke/MethodHandle" ∧ yX0_pool.cls ≠ "java/lang/invoke/VarHandle" ∧ (parseMethodDescriptor yX0_pool.desc).map (fun d => d.parameters.length) = some 1 := by decide +kernel
set_option maxRecDepth 100000 in
set_option maxHeartbeats 4000000 in
theorem c_X0_pool (l : Launch) (D : va_G) (cI : ClassId) (A : Nat → Nat) (h : St) (p1 : Int32) (r : Int32) (hf : f_X0_pool h p1 = some r) : Ct l yX0_pool wsX0_pool rm_X0_pool D cI (cH cI A h) (cH cI A h) [.ref (A 0), .int p1] (some (.int r)) := by
  unfold f_X0_pool at hf
  refine Ct.ofI (cc := cX0_pool) (maxL := 4) (by decide +kernel) rfl (Nat.le_of_ble_eq_true rfl) ?_
  intro p e s m args below meth c AA Q H locs ls hx hb hml hown hts hA hK hP hD hS hl hend0
  have hend : ∀ (r1 : Int32) (H : Heap) (locs : List Loc) (pc : Nat) (ls : Array Slot), some r1 = some r → va_P D vwCl (cH cI A h) H → va_S AA s.heap H locs → decode cX0_pool pc = .ok (.ireturn, 1) → W p l e rm_X0_pool s m args below meth c H locs 0 0 Q (F0 m pc ls [.int r1]) := by
    intro r1 H locs pc ls e1 hP hS hd; cases e1; exact hend0 H locs pc ls hP hS hd
  clear hend0
  have hw0 : ∀ w ∈ wsX00, w ∈ wsX0_pool := by decide +kernel
  have k27 := hts (.fieldLink RX0 27 "AnchorsForConfession$Harbour" "sinsOf" "[I") (by decide +kernel)
  have k30 := hts (.fieldLink RX0 30 "AnchorsForConfession$Harbour" "aboard" "[I") (by decide +kernel)
  have k40 := hts (.fieldLink RX0 40 "AnchorsForConfession$Harbour" "men" "I") (by decide +kernel)
  replace hl : lv_has ls 4 [(0, .ref (A 0)), (1, .int p1)] := hl
  refine lv_iconst (v := 0) hx hb dX0_pool_0 (by decide) ?_
  refine lv_istore_n (lv' := [(2, .int (0 : Int32)), (0, .ref (A 0)), (1, .int p1)]) hx hb dX0_pool_1 rfl hl (by decide) rfl (fun ls hl => ?_)
  refine lv_iconst (v := 0) hx hb dX0_pool_2 (by decide) ?_
  refine lv_istore_n (lv' := [(3, .int (0 : Int32)), (2, .int (0 : Int32)), (0, .ref (A 0)), (1, .int p1)]) hx hb dX0_pool_3 rfl hl (by decide) rfl (fun ls hl => ?_)
  refine lp_ind (P := fun (q4 : Int32 × Int32) => ∀ (H : Heap) (locs : List Loc) (ls : Array Slot), va_P D vwCl (cH cI A h) H → va_D AA (cH cI A h) → va_S AA s.heap H locs → lv_has ls 4 [(0, .ref (A 0)), (1, .int p1), (2, .int q4.1), (3, .int q4.2)] → W p l e rm_X0_pool s m args below meth c H locs 0 0 Q (F0 m 4 ls [])) hf ?_ H locs ls hP hD hS (lv_sub hl [2, 3, 1, 0] rfl)
  clear hf hP hD hS hl
  intro nx4 ih4 q4 hf H locs ls hP hD hS hl
  refine lv_iload_n hx hb dX0_pool_4 rfl (lv_at hl 3 rfl) ?_
  refine lv_aload_n hx hb dX0_pool_5 rfl (lv_at hl 0 rfl) ?_
  refine va_get (D := D) (ci := 0) (v := .int (h 16 1)) (C := RX0) (T := TX0) (N := 12) hx hb hts hw0 hown hK hP 0 cH_at0 rfl 4 (by decide) k40 (fun _ h9 => h9) rfl dX0_pool_6 ?_
  refine lv_icmp_ge (tgt := 43) hx hb dX0_pool_9 (by decide) (fun c_1 => ?_) (fun c_1 => ?_)
  · replace hf := if_t c_1 hf
    refine lv_iload_n hx hb dX0_pool_43 rfl (lv_at hl 2 rfl) ?_
    exact hend q4.1 H locs _ _ hf hP hS dX0_pool_44
  · replace hf := if_f c_1 hf
    refine lv_aload_n hx hb dX0_pool_12 rfl (lv_at hl 0 rfl) ?_
    refine va_get (D := D) (ci := 0) (v := .ref (A 7)) (C := RX0) (T := TX0) (N := 12) hx hb hts hw0 hown hK hP 0 cH_at0 rfl 8 (by decide) k30 (fun _ h9 => h9) rfl dX0_pool_13 ?_
    refine lv_iload_n hx hb dX0_pool_16 rfl (lv_at hl 3 rfl) ?_
    obtain ⟨c_2, hf⟩ := gi_e hf
    refine va_iald hx hb hK hP 7 0 cH_at7 rfl c_2 dX0_pool_17 ?_
    refine lv_iload_n hx hb dX0_pool_18 rfl (lv_at hl 1 rfl) ?_
    refine lv_icmp_ne (tgt := 37) hx hb dX0_pool_19 (by decide) (fun c_3 => ?_) (fun c_3 => ?_)
    · replace hf := if_f c_3 hf
      obtain ⟨v_4, ev_4, hf⟩ := nq_e hf
      refine lv_iinc (v := v_4) (lv' := [(3, .int v_4), (0, .ref (A 0)), (1, .int p1), (2, .int q4.1)]) hx hb dX0_pool_37 hl (k := 3) rfl (by rw [ev_4]; rfl) (by decide) rfl (fun ls hl => ?_)
      refine lv_goto (tgt := 4) hx hb dX0_pool_40 (by decide) ?_
      exact ih4 (q4.1, v_4) hf H locs ls hP hD hS (lv_sub hl [1, 2, 3, 0] rfl)
    · replace hf := if_t c_3 hf
      refine lv_iload_n hx hb dX0_pool_22 rfl (lv_at hl 2 rfl) ?_
      refine lv_aload_n hx hb dX0_pool_23 rfl (lv_at hl 0 rfl) ?_
      refine va_get (D := D) (ci := 0) (v := .ref (A 6)) (C := RX0) (T := TX0) (N := 12) hx hb hts hw0 hown hK hP 0 cH_at0 rfl 7 (by decide) k27 (fun _ h9 => h9) rfl dX0_pool_24 ?_
      refine lv_iload_n hx hb dX0_pool_27 rfl (lv_at hl 3 rfl) ?_
      obtain ⟨c_5, hf⟩ := gi_e hf
      refine va_iald hx hb hK hP 6 0 cH_at6 rfl c_5 dX0_pool_28 ?_
      refine lv_aload_n hx hb dX0_pool_29 rfl (lv_at hl 0 rfl) ?_
      refine lv_iload_n hx hb dX0_pool_30 rfl (lv_at hl 3 rfl) ?_
      obtain ⟨a_6, ha_6, hf⟩ := bd_e hf
      refine Ct.callV (As := [.int q4.2]) (rest := [.int (h 6 (q4.2).toNatClampNeg), .int q4.1]) (st1 := [.int a_6, .int (h 6 (q4.2).toNatClampNeg), .int q4.1]) (c_X0_worth l D cI A h q4.2 a_6 ha_6) hx hb hml hown hts (cwV 1 hts gX0_pool_X0_worth rfl rfl rfl hd_X0_worth ⟨Nat.le_of_ble_eq_true rfl, Nat.le_of_ble_eq_true rfl⟩) (va_recv hK hP (ci := 0) (q0 := 0) rfl cH_at0) (Ln.id rfl) hA hK hP hD hS rfl hl.1 rfl rfl (Nat.le_of_ble_eq_true rfl) dX0_pool_31 (fun H locs hP hD hS => ?_)
      refine lv_imul hx hb dX0_pool_34 ?_
      refine lv_iadd hx hb dX0_pool_35 ?_
      refine lv_topi (fun v_7 ev_7 => ?_)
      replace hf := nm_at ev_7 hf
      refine lv_istore_n (lv' := [(2, .int v_7), (0, .ref (A 0)), (1, .int p1), (3, .int q4.2)]) hx hb dX0_pool_36 rfl hl (by decide) rfl (fun ls hl => ?_)
      obtain ⟨v_8, ev_8, hf⟩ := nq_e hf
      refine lv_iinc (v := v_8) (lv' := [(3, .int v_8), (2, .int v_7), (0, .ref (A 0)), (1, .int p1)]) hx hb dX0_pool_37 hl (k := 3) rfl (by rw [ev_8]; rfl) (by decide) rfl (fun ls hl => ?_)
      refine lv_goto (tgt := 4) hx hb dX0_pool_40 (by decide) ?_
      exact ih4 (v_7, v_8) hf H locs ls hP hD hS (lv_sub hl [2, 3, 1, 0] rfl)

def rm_X0_crew : Room := { frames := 0, cells := 0, slots := 0, locals := 0 }
theorem hd_X0_crew : yX0_crew.cls = RX0 ∧ yX0_crew.cls ≠ "java/lang/invoke/MethodHandle" ∧ yX0_crew.cls ≠ "java/lang/invoke/VarHandle" ∧ (parseMethodDescriptor yX0_crew.desc).map (fun d => d.parameters.length) = some 1 := by decide +kernel
set_option maxRecDepth 100000 in
set_option maxHeartbeats 4000000 in
theorem c_X0_crew (l : Launch) (D : va_G) (cI : ClassId) (A : Nat → Nat) (h : St) (p1 : Int32) (r : Int32) (hf : f_X0_crew h p1 = some r) : Ct l yX0_crew wsX0_crew rm_X0_crew D cI (cH cI A h) (cH cI A h) [.ref (A 0), .int p1] (some (.int r)) := by
  unfold f_X0_crew at hf
  refine Ct.ofI (cc := cX0_crew) (maxL := 4) (by decide +kernel) rfl (Nat.le_of_ble_eq_true rfl) ?_
  intro p e s m args below meth c AA Q H locs ls hx hb hml hown hts hA hK hP hD hS hl hend0
  have hend : ∀ (r1 : Int32) (H : Heap) (locs : List Loc) (pc : Nat) (ls : Array Slot), some r1 = some r → va_P D vwCl (cH cI A h) H → va_S AA s.heap H locs → decode cX0_crew pc = .ok (.ireturn, 1) → W p l e rm_X0_crew s m args below meth c H locs 0 0 Q (F0 m pc ls [.int r1]) := by
    intro r1 H locs pc ls e1 hP hS hd; cases e1; exact hend0 H locs pc ls hP hS hd
  clear hend0
  have hw0 : ∀ w ∈ wsX00, w ∈ wsX0_crew := by decide +kernel
  have k30 := hts (.fieldLink RX0 30 "AnchorsForConfession$Harbour" "aboard" "[I") (by decide +kernel)
  have k40 := hts (.fieldLink RX0 40 "AnchorsForConfession$Harbour" "men" "I") (by decide +kernel)
  replace hl : lv_has ls 4 [(0, .ref (A 0)), (1, .int p1)] := hl
  refine lv_iconst (v := 0) hx hb dX0_crew_0 (by decide) ?_
  refine lv_istore_n (lv' := [(2, .int (0 : Int32)), (0, .ref (A 0)), (1, .int p1)]) hx hb dX0_crew_1 rfl hl (by decide) rfl (fun ls hl => ?_)
  refine lv_iconst (v := 0) hx hb dX0_crew_2 (by decide) ?_
  refine lv_istore_n (lv' := [(3, .int (0 : Int32)), (2, .int (0 : Int32)), (0, .ref (A 0)), (1, .int p1)]) hx hb dX0_crew_3 rfl hl (by decide) rfl (fun ls hl => ?_)
  refine lp_ind (P := fun (q4 : Int32 × Int32) => ∀ (H : Heap) (locs : List Loc) (ls : Array Slot), va_P D vwCl (cH cI A h) H → va_D AA (cH cI A h) → va_S AA s.heap H locs → lv_has ls 4 [(0, .ref (A 0)), (1, .int p1), (2, .int q4.1), (3, .int q4.2)] → W p l e rm_X0_crew s m args below meth c H locs 0 0 Q (F0 m 4 ls [])) hf ?_ H locs ls hP hD hS (lv_sub hl [2, 3, 1, 0] rfl)
  clear hf hP hD hS hl
  intro nx4 ih4 q4 hf H locs ls hP hD hS hl
  refine lv_iload_n hx hb dX0_crew_4 rfl (lv_at hl 3 rfl) ?_
  refine lv_aload_n hx hb dX0_crew_5 rfl (lv_at hl 0 rfl) ?_
  refine va_get (D := D) (ci := 0) (v := .int (h 16 1)) (C := RX0) (T := TX0) (N := 12) hx hb hts hw0 hown hK hP 0 cH_at0 rfl 4 (by decide) k40 (fun _ h9 => h9) rfl dX0_crew_6 ?_
  refine lv_icmp_ge (tgt := 34) hx hb dX0_crew_9 (by decide) (fun c_1 => ?_) (fun c_1 => ?_)
  · replace hf := if_t c_1 hf
    refine lv_iload_n hx hb dX0_crew_34 rfl (lv_at hl 2 rfl) ?_
    exact hend q4.1 H locs _ _ hf hP hS dX0_crew_35
  · replace hf := if_f c_1 hf
    refine lv_aload_n hx hb dX0_crew_12 rfl (lv_at hl 0 rfl) ?_
    refine va_get (D := D) (ci := 0) (v := .ref (A 7)) (C := RX0) (T := TX0) (N := 12) hx hb hts hw0 hown hK hP 0 cH_at0 rfl 8 (by decide) k30 (fun _ h9 => h9) rfl dX0_crew_13 ?_
    refine lv_iload_n hx hb dX0_crew_16 rfl (lv_at hl 3 rfl) ?_
    obtain ⟨c_2, hf⟩ := gi_e hf
    refine va_iald hx hb hK hP 7 0 cH_at7 rfl c_2 dX0_crew_17 ?_
    refine lv_iload_n hx hb dX0_crew_18 rfl (lv_at hl 1 rfl) ?_
    refine lv_icmp_ne (tgt := 28) hx hb dX0_crew_19 (by decide) (fun c_3 => ?_) (fun c_3 => ?_)
    · replace hf := if_f c_3 hf
      obtain ⟨v_4, ev_4, hf⟩ := nq_e hf
      refine lv_iinc (v := v_4) (lv' := [(3, .int v_4), (0, .ref (A 0)), (1, .int p1), (2, .int q4.1)]) hx hb dX0_crew_28 hl (k := 3) rfl (by rw [ev_4]; rfl) (by decide) rfl (fun ls hl => ?_)
      refine lv_goto (tgt := 4) hx hb dX0_crew_31 (by decide) ?_
      exact ih4 (q4.1, v_4) hf H locs ls hP hD hS (lv_sub hl [1, 2, 3, 0] rfl)
    · replace hf := if_t c_3 hf
      refine lv_iload_n hx hb dX0_crew_22 rfl (lv_at hl 2 rfl) ?_
      refine lv_iconst (v := 1) hx hb dX0_crew_23 (by decide) ?_
      refine lv_iload_n hx hb dX0_crew_24 rfl (lv_at hl 3 rfl) ?_
      refine lv_ishl hx hb dX0_crew_25 ?_
      refine lv_ior hx hb dX0_crew_26 ?_
      refine lv_topi (fun v_5 ev_5 => ?_)
      replace hf := nm_at ev_5 hf
      refine lv_istore_n (lv' := [(2, .int v_5), (0, .ref (A 0)), (1, .int p1), (3, .int q4.2)]) hx hb dX0_crew_27 rfl hl (by decide) rfl (fun ls hl => ?_)
      obtain ⟨v_6, ev_6, hf⟩ := nq_e hf
      refine lv_iinc (v := v_6) (lv' := [(3, .int v_6), (2, .int v_5), (0, .ref (A 0)), (1, .int p1)]) hx hb dX0_crew_28 hl (k := 3) rfl (by rw [ev_6]; rfl) (by decide) rfl (fun ls hl => ?_)
      refine lv_goto (tgt := 4) hx hb dX0_crew_31 (by decide) ?_
      exact ih4 (v_5, v_6) hf H locs ls hP hD hS (lv_sub hl [2, 3, 1, 0] rfl)

def rm_X0_sinsAboard : Room := { frames := 0, cells := 0, slots := 0, locals := 0 }
theorem hd_X0_sinsAboard : yX0_sinsAboard.cls = RX0 ∧ yX0_sinsAboard.cls ≠ "java/lang/invoke/MethodHandle" ∧ yX0_sinsAboard.cls ≠ "java/lang/invoke/VarHandle" ∧ (parseMethodDescriptor yX0_sinsAboard.desc).map (fun d => d.parameters.length) = some 1 := by decide +kernel
set_option maxRecDepth 100000 in
set_option maxHeartbeats 4000000 in
theorem c_X0_sinsAboard (l : Launch) (D : va_G) (cI : ClassId) (A : Nat → Nat) (h : St) (p1 : Int32) (r : Int32) (hf : f_X0_sinsAboard h p1 = some r) : Ct l yX0_sinsAboard wsX0_sinsAboard rm_X0_sinsAboard D cI (cH cI A h) (cH cI A h) [.ref (A 0), .int p1] (some (.int r)) := by
  unfold f_X0_sinsAboard at hf
  refine Ct.ofI (cc := cX0_sinsAboard) (maxL := 4) (by decide +kernel) rfl (Nat.le_of_ble_eq_true rfl) ?_
  intro p e s m args below meth c AA Q H locs ls hx hb hml hown hts hA hK hP hD hS hl hend0
  have hend : ∀ (r1 : Int32) (H : Heap) (locs : List Loc) (pc : Nat) (ls : Array Slot), some r1 = some r → va_P D vwCl (cH cI A h) H → va_S AA s.heap H locs → decode cX0_sinsAboard pc = .ok (.ireturn, 1) → W p l e rm_X0_sinsAboard s m args below meth c H locs 0 0 Q (F0 m pc ls [.int r1]) := by
    intro r1 H locs pc ls e1 hP hS hd; cases e1; exact hend0 H locs pc ls hP hS hd
  clear hend0
  have hw0 : ∀ w ∈ wsX00, w ∈ wsX0_sinsAboard := by decide +kernel
  have k27 := hts (.fieldLink RX0 27 "AnchorsForConfession$Harbour" "sinsOf" "[I") (by decide +kernel)
  have k30 := hts (.fieldLink RX0 30 "AnchorsForConfession$Harbour" "aboard" "[I") (by decide +kernel)
  have k40 := hts (.fieldLink RX0 40 "AnchorsForConfession$Harbour" "men" "I") (by decide +kernel)
  replace hl : lv_has ls 4 [(0, .ref (A 0)), (1, .int p1)] := hl
  refine lv_iconst (v := 0) hx hb dX0_sinsAboard_0 (by decide) ?_
  refine lv_istore_n (lv' := [(2, .int (0 : Int32)), (0, .ref (A 0)), (1, .int p1)]) hx hb dX0_sinsAboard_1 rfl hl (by decide) rfl (fun ls hl => ?_)
  refine lv_iconst (v := 0) hx hb dX0_sinsAboard_2 (by decide) ?_
  refine lv_istore_n (lv' := [(3, .int (0 : Int32)), (2, .int (0 : Int32)), (0, .ref (A 0)), (1, .int p1)]) hx hb dX0_sinsAboard_3 rfl hl (by decide) rfl (fun ls hl => ?_)
  refine lp_ind (P := fun (q4 : Int32 × Int32) => ∀ (H : Heap) (locs : List Loc) (ls : Array Slot), va_P D vwCl (cH cI A h) H → va_D AA (cH cI A h) → va_S AA s.heap H locs → lv_has ls 4 [(0, .ref (A 0)), (1, .int p1), (2, .int q4.1), (3, .int q4.2)] → W p l e rm_X0_sinsAboard s m args below meth c H locs 0 0 Q (F0 m 4 ls [])) hf ?_ H locs ls hP hD hS (lv_sub hl [2, 3, 1, 0] rfl)
  clear hf hP hD hS hl
  intro nx4 ih4 q4 hf H locs ls hP hD hS hl
  refine lv_iload_n hx hb dX0_sinsAboard_4 rfl (lv_at hl 3 rfl) ?_
  refine lv_aload_n hx hb dX0_sinsAboard_5 rfl (lv_at hl 0 rfl) ?_
  refine va_get (D := D) (ci := 0) (v := .int (h 16 1)) (C := RX0) (T := TX0) (N := 12) hx hb hts hw0 hown hK hP 0 cH_at0 rfl 4 (by decide) k40 (fun _ h9 => h9) rfl dX0_sinsAboard_6 ?_
  refine lv_icmp_ge (tgt := 37) hx hb dX0_sinsAboard_9 (by decide) (fun c_1 => ?_) (fun c_1 => ?_)
  · replace hf := if_t c_1 hf
    refine lv_iload_n hx hb dX0_sinsAboard_37 rfl (lv_at hl 2 rfl) ?_
    exact hend q4.1 H locs _ _ hf hP hS dX0_sinsAboard_38
  · replace hf := if_f c_1 hf
    refine lv_aload_n hx hb dX0_sinsAboard_12 rfl (lv_at hl 0 rfl) ?_
    refine va_get (D := D) (ci := 0) (v := .ref (A 7)) (C := RX0) (T := TX0) (N := 12) hx hb hts hw0 hown hK hP 0 cH_at0 rfl 8 (by decide) k30 (fun _ h9 => h9) rfl dX0_sinsAboard_13 ?_
    refine lv_iload_n hx hb dX0_sinsAboard_16 rfl (lv_at hl 3 rfl) ?_
    obtain ⟨c_2, hf⟩ := gi_e hf
    refine va_iald hx hb hK hP 7 0 cH_at7 rfl c_2 dX0_sinsAboard_17 ?_
    refine lv_iload_n hx hb dX0_sinsAboard_18 rfl (lv_at hl 1 rfl) ?_
    refine lv_icmp_ne (tgt := 31) hx hb dX0_sinsAboard_19 (by decide) (fun c_3 => ?_) (fun c_3 => ?_)
    · replace hf := if_f c_3 hf
      obtain ⟨v_4, ev_4, hf⟩ := nq_e hf
      refine lv_iinc (v := v_4) (lv' := [(3, .int v_4), (0, .ref (A 0)), (1, .int p1), (2, .int q4.1)]) hx hb dX0_sinsAboard_31 hl (k := 3) rfl (by rw [ev_4]; rfl) (by decide) rfl (fun ls hl => ?_)
      refine lv_goto (tgt := 4) hx hb dX0_sinsAboard_34 (by decide) ?_
      exact ih4 (q4.1, v_4) hf H locs ls hP hD hS (lv_sub hl [1, 2, 3, 0] rfl)
    · replace hf := if_t c_3 hf
      refine lv_iload_n hx hb dX0_sinsAboard_22 rfl (lv_at hl 2 rfl) ?_
      refine lv_aload_n hx hb dX0_sinsAboard_23 rfl (lv_at hl 0 rfl) ?_
      refine va_get (D := D) (ci := 0) (v := .ref (A 6)) (C := RX0) (T := TX0) (N := 12) hx hb hts hw0 hown hK hP 0 cH_at0 rfl 7 (by decide) k27 (fun _ h9 => h9) rfl dX0_sinsAboard_24 ?_
      refine lv_iload_n hx hb dX0_sinsAboard_27 rfl (lv_at hl 3 rfl) ?_
      obtain ⟨c_5, hf⟩ := gi_e hf
      refine va_iald hx hb hK hP 6 0 cH_at6 rfl c_5 dX0_sinsAboard_28 ?_
      refine lv_iadd hx hb dX0_sinsAboard_29 ?_
      refine lv_topi (fun v_6 ev_6 => ?_)
      replace hf := nm_at ev_6 hf
      refine lv_istore_n (lv' := [(2, .int v_6), (0, .ref (A 0)), (1, .int p1), (3, .int q4.2)]) hx hb dX0_sinsAboard_30 rfl hl (by decide) rfl (fun ls hl => ?_)
      obtain ⟨v_7, ev_7, hf⟩ := nq_e hf
      refine lv_iinc (v := v_7) (lv' := [(3, .int v_7), (2, .int v_6), (0, .ref (A 0)), (1, .int p1)]) hx hb dX0_sinsAboard_31 hl (k := 3) rfl (by rw [ev_7]; rfl) (by decide) rfl (fun ls hl => ?_)
      refine lv_goto (tgt := 4) hx hb dX0_sinsAboard_34 (by decide) ?_
      exact ih4 (v_6, v_7) hf H locs ls hP hD hS (lv_sub hl [2, 3, 1, 0] rfl)

def rm_X0_allSins : Room := { frames := 0, cells := 0, slots := 0, locals := 0 }
theorem hd_X0_allSins : yX0_allSins.cls = RX0 ∧ yX0_allSins.cls ≠ "java/lang/invoke/MethodHandle" ∧ yX0_allSins.cls ≠ "java/lang/invoke/VarHandle" ∧ (parseMethodDescriptor yX0_allSins.desc).map (fun d => d.parameters.length) = some 0 := by decide +kernel
set_option maxRecDepth 100000 in
set_option maxHeartbeats 4000000 in
theorem c_X0_allSins (l : Launch) (D : va_G) (cI : ClassId) (A : Nat → Nat) (h : St) (r : Int32) (hf : f_X0_allSins h = some r) : Ct l yX0_allSins wsX0_allSins rm_X0_allSins D cI (cH cI A h) (cH cI A h) [.ref (A 0)] (some (.int r)) := by
  unfold f_X0_allSins at hf
  refine Ct.ofI (cc := cX0_allSins) (maxL := 3) (by decide +kernel) rfl (Nat.le_of_ble_eq_true rfl) ?_
  intro p e s m args below meth c AA Q H locs ls hx hb hml hown hts hA hK hP hD hS hl hend0
  have hend : ∀ (r1 : Int32) (H : Heap) (locs : List Loc) (pc : Nat) (ls : Array Slot), some r1 = some r → va_P D vwCl (cH cI A h) H → va_S AA s.heap H locs → decode cX0_allSins pc = .ok (.ireturn, 1) → W p l e rm_X0_allSins s m args below meth c H locs 0 0 Q (F0 m pc ls [.int r1]) := by
    intro r1 H locs pc ls e1 hP hS hd; cases e1; exact hend0 H locs pc ls hP hS hd
  clear hend0
  have hw0 : ∀ w ∈ wsX00, w ∈ wsX0_allSins := by decide +kernel
  have k27 := hts (.fieldLink RX0 27 "AnchorsForConfession$Harbour" "sinsOf" "[I") (by decide +kernel)
  have k40 := hts (.fieldLink RX0 40 "AnchorsForConfession$Harbour" "men" "I") (by decide +kernel)
  replace hl : lv_has ls 3 [(0, .ref (A 0))] := hl
  refine lv_iconst (v := 0) hx hb dX0_allSins_0 (by decide) ?_
  refine lv_istore_n (lv' := [(1, .int (0 : Int32)), (0, .ref (A 0))]) hx hb dX0_allSins_1 rfl hl (by decide) rfl (fun ls hl => ?_)
  refine lv_iconst (v := 0) hx hb dX0_allSins_2 (by decide) ?_
  refine lv_istore_n (lv' := [(2, .int (0 : Int32)), (1, .int (0 : Int32)), (0, .ref (A 0))]) hx hb dX0_allSins_3 rfl hl (by decide) rfl (fun ls hl => ?_)
  refine lp_ind (P := fun (q4 : Int32 × Int32) => ∀ (H : Heap) (locs : List Loc) (ls : Array Slot), va_P D vwCl (cH cI A h) H → va_D AA (cH cI A h) → va_S AA s.heap H locs → lv_has ls 3 [(0, .ref (A 0)), (1, .int q4.1), (2, .int q4.2)] → W p l e rm_X0_allSins s m args below meth c H locs 0 0 Q (F0 m 4 ls [])) hf ?_ H locs ls hP hD hS (lv_sub hl [2, 1, 0] rfl)
  clear hf hP hD hS hl
  intro nx4 ih4 q4 hf H locs ls hP hD hS hl
  refine lv_iload_n hx hb dX0_allSins_4 rfl (lv_at hl 2 rfl) ?_
  refine lv_aload_n hx hb dX0_allSins_5 rfl (lv_at hl 0 rfl) ?_
  refine va_get (D := D) (ci := 0) (v := .int (h 16 1)) (C := RX0) (T := TX0) (N := 12) hx hb hts hw0 hown hK hP 0 cH_at0 rfl 4 (by decide) k40 (fun _ h9 => h9) rfl dX0_allSins_6 ?_
  refine lv_icmp_ge (tgt := 27) hx hb dX0_allSins_9 (by decide) (fun c_1 => ?_) (fun c_1 => ?_)
  · replace hf := if_t c_1 hf
    refine lv_iload_n hx hb dX0_allSins_27 rfl (lv_at hl 1 rfl) ?_
    exact hend q4.1 H locs _ _ hf hP hS dX0_allSins_28
  · replace hf := if_f c_1 hf
    refine lv_iload_n hx hb dX0_allSins_12 rfl (lv_at hl 1 rfl) ?_
    refine lv_aload_n hx hb dX0_allSins_13 rfl (lv_at hl 0 rfl) ?_
    refine va_get (D := D) (ci := 0) (v := .ref (A 6)) (C := RX0) (T := TX0) (N := 12) hx hb hts hw0 hown hK hP 0 cH_at0 rfl 7 (by decide) k27 (fun _ h9 => h9) rfl dX0_allSins_14 ?_
    refine lv_iload_n hx hb dX0_allSins_17 rfl (lv_at hl 2 rfl) ?_
    obtain ⟨c_2, hf⟩ := gi_e hf
    refine va_iald hx hb hK hP 6 0 cH_at6 rfl c_2 dX0_allSins_18 ?_
    refine lv_iadd hx hb dX0_allSins_19 ?_
    refine lv_topi (fun v_3 ev_3 => ?_)
    replace hf := nm_at ev_3 hf
    refine lv_istore_n (lv' := [(1, .int v_3), (0, .ref (A 0)), (2, .int q4.2)]) hx hb dX0_allSins_20 rfl hl (by decide) rfl (fun ls hl => ?_)
    obtain ⟨v_4, ev_4, hf⟩ := nq_e hf
    refine lv_iinc (v := v_4) (lv' := [(2, .int v_4), (1, .int v_3), (0, .ref (A 0))]) hx hb dX0_allSins_21 hl (k := 2) rfl (by rw [ev_4]; rfl) (by decide) rfl (fun ls hl => ?_)
    refine lv_goto (tgt := 4) hx hb dX0_allSins_24 (by decide) ?_
    exact ih4 (v_3, v_4) hf H locs ls hP hD hS (lv_sub hl [2, 1, 0] rfl)

def rm_X0_outBits : Room := { frames := 1, cells := 0, slots := 0, locals := 21 }
theorem hd_X0_outBits : yX0_outBits.cls = RX0 ∧ yX0_outBits.cls ≠ "java/lang/invoke/MethodHandle" ∧ yX0_outBits.cls ≠ "java/lang/invoke/VarHandle" ∧ (parseMethodDescriptor yX0_outBits.desc).map (fun d => d.parameters.length) = some 0 := by decide +kernel
set_option maxRecDepth 100000 in
set_option maxHeartbeats 4000000 in
theorem c_X0_outBits (l : Launch) (D : va_G) (cI : ClassId) (A : Nat → Nat) (h : St) (r : Int32) (hf : f_X0_outBits h = some r) : Ct l yX0_outBits wsX0_outBits rm_X0_outBits D cI (cH cI A h) (cH cI A h) [.ref (A 0)] (some (.int r)) := by
  unfold f_X0_outBits at hf
  refine Ct.ofI (cc := cX0_outBits) (maxL := 3) (by decide +kernel) rfl (Nat.le_of_ble_eq_true rfl) ?_
  intro p e s m args below meth c AA Q H locs ls hx hb hml hown hts hA hK hP hD hS hl hend0
  have hend : ∀ (r1 : Int32) (H : Heap) (locs : List Loc) (pc : Nat) (ls : Array Slot), some r1 = some r → va_P D vwCl (cH cI A h) H → va_S AA s.heap H locs → decode cX0_outBits pc = .ok (.ireturn, 1) → W p l e rm_X0_outBits s m args below meth c H locs 0 0 Q (F0 m pc ls [.int r1]) := by
    intro r1 H locs pc ls e1 hP hS hd; cases e1; exact hend0 H locs pc ls hP hS hd
  clear hend0
  have hw0 : ∀ w ∈ wsX00, w ∈ wsX0_outBits := by decide +kernel
  have k36 := hts (.fieldLink RX0 36 "AnchorsForConfession$Harbour" "ships" "I") (by decide +kernel)
  replace hl : lv_has ls 3 [(0, .ref (A 0))] := hl
  refine lv_iconst (v := 0) hx hb dX0_outBits_0 (by decide) ?_
  refine lv_istore_n (lv' := [(1, .int (0 : Int32)), (0, .ref (A 0))]) hx hb dX0_outBits_1 rfl hl (by decide) rfl (fun ls hl => ?_)
  refine lv_iconst (v := 0) hx hb dX0_outBits_2 (by decide) ?_
  refine lv_istore_n (lv' := [(2, .int (0 : Int32)), (1, .int (0 : Int32)), (0, .ref (A 0))]) hx hb dX0_outBits_3 rfl hl (by decide) rfl (fun ls hl => ?_)
  refine lp_ind (P := fun (q4 : Int32 × Int32) => ∀ (H : Heap) (locs : List Loc) (ls : Array Slot), va_P D vwCl (cH cI A h) H → va_D AA (cH cI A h) → va_S AA s.heap H locs → lv_has ls 3 [(0, .ref (A 0)), (1, .int q4.1), (2, .int q4.2)] → W p l e rm_X0_outBits s m args below meth c H locs 0 0 Q (F0 m 4 ls [])) hf ?_ H locs ls hP hD hS (lv_sub hl [2, 1, 0] rfl)
  clear hf hP hD hS hl
  intro nx4 ih4 q4 hf H locs ls hP hD hS hl
  refine lv_iload_n hx hb dX0_outBits_4 rfl (lv_at hl 2 rfl) ?_
  refine lv_aload_n hx hb dX0_outBits_5 rfl (lv_at hl 0 rfl) ?_
  refine va_get (D := D) (ci := 0) (v := .int (h 16 0)) (C := RX0) (T := TX0) (N := 12) hx hb hts hw0 hown hK hP 0 cH_at0 rfl 0 (by decide) k36 (fun _ h9 => h9) rfl dX0_outBits_6 ?_
  refine lv_icmp_ge (tgt := 32) hx hb dX0_outBits_9 (by decide) (fun c_1 => ?_) (fun c_1 => ?_)
  · replace hf := if_t c_1 hf
    refine lv_iload_n hx hb dX0_outBits_32 rfl (lv_at hl 1 rfl) ?_
    exact hend q4.1 H locs _ _ hf hP hS dX0_outBits_33
  · replace hf := if_f c_1 hf
    refine lv_aload_n hx hb dX0_outBits_12 rfl (lv_at hl 0 rfl) ?_
    refine lv_iload_n hx hb dX0_outBits_13 rfl (lv_at hl 2 rfl) ?_
    obtain ⟨a_2, ha_2, hf⟩ := bd_e hf
    refine Ct.callV (As := [.int q4.2]) (rest := []) (st1 := [.int a_2]) (c_X0_isIn l D cI A h q4.2 a_2 ha_2) hx hb hml hown hts (cwV 1 hts gX0_outBits_X0_isIn rfl rfl rfl hd_X0_isIn ⟨Nat.le_of_ble_eq_true rfl, Nat.le_of_ble_eq_true rfl⟩) (va_recv hK hP (ci := 0) (q0 := 0) rfl cH_at0) (Ln.id rfl) hA hK hP hD hS rfl hl.1 rfl rfl (Nat.le_of_ble_eq_true rfl) dX0_outBits_14 (fun H locs hP hD hS => ?_)
    refine lv_if_ne (tgt := 26) hx hb dX0_outBits_17 (by decide) (fun c_3 => ?_) (fun c_3 => ?_)
    · replace hf := if_f c_3 hf
      obtain ⟨v_4, ev_4, hf⟩ := nq_e hf
      refine lv_iinc (v := v_4) (lv' := [(2, .int v_4), (0, .ref (A 0)), (1, .int q4.1)]) hx hb dX0_outBits_26 hl (k := 2) rfl (by rw [ev_4]; rfl) (by decide) rfl (fun ls hl => ?_)
      refine lv_goto (tgt := 4) hx hb dX0_outBits_29 (by decide) ?_
      exact ih4 (q4.1, v_4) hf H locs ls hP hD hS (lv_sub hl [1, 2, 0] rfl)
    · replace hf := if_t c_3 hf
      refine lv_iload_n hx hb dX0_outBits_20 rfl (lv_at hl 1 rfl) ?_
      refine lv_iconst (v := 1) hx hb dX0_outBits_21 (by decide) ?_
      refine lv_iload_n hx hb dX0_outBits_22 rfl (lv_at hl 2 rfl) ?_
      refine lv_ishl hx hb dX0_outBits_23 ?_
      refine lv_ior hx hb dX0_outBits_24 ?_
      refine lv_topi (fun v_5 ev_5 => ?_)
      replace hf := nm_at ev_5 hf
      refine lv_istore_n (lv' := [(1, .int v_5), (0, .ref (A 0)), (2, .int q4.2)]) hx hb dX0_outBits_25 rfl hl (by decide) rfl (fun ls hl => ?_)
      obtain ⟨v_6, ev_6, hf⟩ := nq_e hf
      refine lv_iinc (v := v_6) (lv' := [(2, .int v_6), (1, .int v_5), (0, .ref (A 0))]) hx hb dX0_outBits_26 hl (k := 2) rfl (by rw [ev_6]; rfl) (by decide) rfl (fun ls hl => ?_)
      refine lv_goto (tgt := 4) hx hb dX0_outBits_29 (by decide) ?_
      exact ih4 (v_5, v_6) hf H locs ls hP hD hS (lv_sub hl [2, 1, 0] rfl)

def rm_X0_canRise : Room := { frames := 3, cells := 0, slots := 0, locals := 67 }
theorem hd_X0_canRise : yX0_canRise.cls = RX0 ∧ yX0_canRise.cls ≠ "java/lang/invoke/MethodHandle" ∧ yX0_canRise.cls ≠ "java/lang/invoke/VarHandle" ∧ (parseMethodDescriptor yX0_canRise.desc).map (fun d => d.parameters.length) = some 1 := by decide +kernel
set_option maxRecDepth 100000 in
set_option maxHeartbeats 4000000 in
theorem c_X0_canRise (l : Launch) (D : va_G) (cI : ClassId) (A : Nat → Nat) (h : St) (p1 : Int32) (r : Int32) (hf : f_X0_canRise h p1 = some r) : Ct l yX0_canRise wsX0_canRise rm_X0_canRise D cI (cH cI A h) (cH cI A h) [.ref (A 0), .int p1] (some (.int r)) := by
  unfold f_X0_canRise at hf
  obtain ⟨hz, hf⟩ := fz_e hf
  refine Ct.ofZ hz (cc := cX0_canRise) (maxL := 2) (by decide +kernel) rfl (Nat.le_of_ble_eq_true rfl) ?_
  intro p e s m args below meth c AA Q H locs ls hx hb hml hown hts hA hK hP hD hS hl hend0
  have hend : ∀ (r1 : Int32) (H : Heap) (locs : List Loc) (pc : Nat) (ls : Array Slot), some r1 = some r → va_P D vwCl (cH cI A h) H → va_S AA s.heap H locs → decode cX0_canRise pc = .ok (.ireturn, 1) → W p l e rm_X0_canRise s m args below meth c H locs 0 0 Q (F0 m pc ls [.int r1]) := by
    intro r1 H locs pc ls e1 hP hS hd; cases e1; exact hend0 H locs pc ls hP hS hd
  clear hend0
  replace hl : lv_has ls 2 [(0, .ref (A 0)), (1, .int p1)] := hl
  refine lv_aload_n hx hb dX0_canRise_0 rfl (lv_at hl 0 rfl) ?_
  refine lv_iload_n hx hb dX0_canRise_1 rfl (lv_at hl 1 rfl) ?_
  obtain ⟨a_1, ha_1, hf⟩ := bd_e hf
  refine Ct.callV (As := [.int p1]) (rest := []) (st1 := [.int a_1]) (c_X0_isIn l D cI A h p1 a_1 ha_1) hx hb hml hown hts (cwV 1 hts gX0_canRise_X0_isIn rfl rfl rfl hd_X0_isIn ⟨Nat.le_of_ble_eq_true rfl, Nat.le_of_ble_eq_true rfl⟩) (va_recv hK hP (ci := 0) (q0 := 0) rfl cH_at0) (Ln.id rfl) hA hK hP hD hS rfl hl.1 rfl rfl (Nat.le_of_ble_eq_true rfl) dX0_canRise_2 (fun H locs hP hD hS => ?_)
  refine lv_if_eq (tgt := 25) hx hb dX0_canRise_5 (by decide) (fun c_2 => ?_) (fun c_2 => ?_)
  · replace hf := if_t c_2 hf
    refine lv_iconst (v := 0) hx hb dX0_canRise_25 (by decide) ?_
    exact hend (0 : Int32) H locs _ _ hf hP hS dX0_canRise_26
  · replace hf := if_f c_2 hf
    refine lv_aload_n hx hb dX0_canRise_8 rfl (lv_at hl 0 rfl) ?_
    refine lv_iload_n hx hb dX0_canRise_9 rfl (lv_at hl 1 rfl) ?_
    obtain ⟨a_3, ha_3, hf⟩ := bd_e hf
    refine Ct.callV (As := [.int p1]) (rest := []) (st1 := [.int a_3]) (c_X0_pool l D cI A h p1 a_3 ha_3) hx hb hml hown hts (cwV 1 hts gX0_canRise_X0_pool rfl rfl rfl hd_X0_pool ⟨Nat.le_of_ble_eq_true rfl, Nat.le_of_ble_eq_true rfl⟩) (va_recv hK hP (ci := 0) (q0 := 0) rfl cH_at0) (Ln.id rfl) hA hK hP hD hS rfl hl.1 rfl rfl (Nat.le_of_ble_eq_true rfl) dX0_canRise_10 (fun H locs hP hD hS => ?_)
    refine lv_aload_n hx hb dX0_canRise_13 rfl (lv_at hl 0 rfl) ?_
    refine lv_iload_n hx hb dX0_canRise_14 rfl (lv_at hl 1 rfl) ?_
    obtain ⟨a_4, ha_4, hf⟩ := bd_e hf
    refine Ct.callV (As := [.int p1]) (rest := [.int a_3]) (st1 := [.int a_4, .int a_3]) (c_X0_lacks l D cI A h p1 a_4 ha_4) hx hb hml hown hts (cwV 1 hts gX0_canRise_X0_lacks rfl rfl rfl hd_X0_lacks ⟨Nat.le_of_ble_eq_true rfl, Nat.le_of_ble_eq_true rfl⟩) (va_recv hK hP (ci := 0) (q0 := 0) rfl cH_at0) (Ln.id rfl) hA hK hP hD hS rfl hl.1 rfl rfl (Nat.le_of_ble_eq_true rfl) dX0_canRise_15 (fun H locs hP hD hS => ?_)
    refine lv_icmp_lt (tgt := 25) hx hb dX0_canRise_18 (by decide) (fun c_5 => ?_) (fun c_5 => ?_)
    · replace hf := if_t c_5 hf
      refine lv_iconst (v := 0) hx hb dX0_canRise_25 (by decide) ?_
      exact hend (0 : Int32) H locs _ _ hf hP hS dX0_canRise_26
    · replace hf := if_f c_5 hf
      refine lv_iconst (v := 1) hx hb dX0_canRise_21 (by decide) ?_
      refine lv_goto (tgt := 26) hx hb dX0_canRise_22 (by decide) ?_
      exact hend (1 : Int32) H locs _ _ hf hP hS dX0_canRise_26

def rm_X0_countRisable : Room := { frames := 4, cells := 0, slots := 0, locals := 88 }
theorem hd_X0_countRisable : yX0_countRisable.cls = RX0 ∧ yX0_countRisable.cls ≠ "java/lang/invoke/MethodHandle" ∧ yX0_countRisable.cls ≠ "java/lang/invoke/VarHandle" ∧ (parseMethodDescriptor yX0_countRisable.desc).map (fun d => d.parameters.length) = some 0 := by decide +kernel
set_option maxRecDepth 100000 in
set_option maxHeartbeats 4000000 in
theorem c_X0_countRisable (l : Launch) (D : va_G) (cI : ClassId) (A : Nat → Nat) (h : St) (r : Int32) (hf : f_X0_countRisable h = some r) : Ct l yX0_countRisable wsX0_countRisable rm_X0_countRisable D cI (cH cI A h) (cH cI A h) [.ref (A 0)] (some (.int r)) := by
  unfold f_X0_countRisable at hf
  refine Ct.ofI (cc := cX0_countRisable) (maxL := 3) (by decide +kernel) rfl (Nat.le_of_ble_eq_true rfl) ?_
  intro p e s m args below meth c AA Q H locs ls hx hb hml hown hts hA hK hP hD hS hl hend0
  have hend : ∀ (r1 : Int32) (H : Heap) (locs : List Loc) (pc : Nat) (ls : Array Slot), some r1 = some r → va_P D vwCl (cH cI A h) H → va_S AA s.heap H locs → decode cX0_countRisable pc = .ok (.ireturn, 1) → W p l e rm_X0_countRisable s m args below meth c H locs 0 0 Q (F0 m pc ls [.int r1]) := by
    intro r1 H locs pc ls e1 hP hS hd; cases e1; exact hend0 H locs pc ls hP hS hd
  clear hend0
  have hw0 : ∀ w ∈ wsX00, w ∈ wsX0_countRisable := by decide +kernel
  have k36 := hts (.fieldLink RX0 36 "AnchorsForConfession$Harbour" "ships" "I") (by decide +kernel)
  replace hl : lv_has ls 3 [(0, .ref (A 0))] := hl
  refine lv_iconst (v := 0) hx hb dX0_countRisable_0 (by decide) ?_
  refine lv_istore_n (lv' := [(1, .int (0 : Int32)), (0, .ref (A 0))]) hx hb dX0_countRisable_1 rfl hl (by decide) rfl (fun ls hl => ?_)
  refine lv_iconst (v := 0) hx hb dX0_countRisable_2 (by decide) ?_
  refine lv_istore_n (lv' := [(2, .int (0 : Int32)), (1, .int (0 : Int32)), (0, .ref (A 0))]) hx hb dX0_countRisable_3 rfl hl (by decide) rfl (fun ls hl => ?_)
  refine lp_ind (P := fun (q4 : Int32 × Int32) => ∀ (H : Heap) (locs : List Loc) (ls : Array Slot), va_P D vwCl (cH cI A h) H → va_D AA (cH cI A h) → va_S AA s.heap H locs → lv_has ls 3 [(0, .ref (A 0)), (1, .int q4.1), (2, .int q4.2)] → W p l e rm_X0_countRisable s m args below meth c H locs 0 0 Q (F0 m 4 ls [])) hf ?_ H locs ls hP hD hS (lv_sub hl [2, 1, 0] rfl)
  clear hf hP hD hS hl
  intro nx4 ih4 q4 hf H locs ls hP hD hS hl
  refine lv_iload_n hx hb dX0_countRisable_4 rfl (lv_at hl 2 rfl) ?_
  refine lv_aload_n hx hb dX0_countRisable_5 rfl (lv_at hl 0 rfl) ?_
  refine va_get (D := D) (ci := 0) (v := .int (h 16 0)) (C := RX0) (T := TX0) (N := 12) hx hb hts hw0 hown hK hP 0 cH_at0 rfl 0 (by decide) k36 (fun _ h9 => h9) rfl dX0_countRisable_6 ?_
  refine lv_icmp_ge (tgt := 29) hx hb dX0_countRisable_9 (by decide) (fun c_1 => ?_) (fun c_1 => ?_)
  · replace hf := if_t c_1 hf
    refine lv_iload_n hx hb dX0_countRisable_29 rfl (lv_at hl 1 rfl) ?_
    exact hend q4.1 H locs _ _ hf hP hS dX0_countRisable_30
  · replace hf := if_f c_1 hf
    refine lv_aload_n hx hb dX0_countRisable_12 rfl (lv_at hl 0 rfl) ?_
    refine lv_iload_n hx hb dX0_countRisable_13 rfl (lv_at hl 2 rfl) ?_
    obtain ⟨a_2, ha_2, hf⟩ := bd_e hf
    refine Ct.callV (As := [.int q4.2]) (rest := []) (st1 := [.int a_2]) (c_X0_canRise l D cI A h q4.2 a_2 ha_2) hx hb hml hown hts (cwV 1 hts gX0_countRisable_X0_canRise rfl rfl rfl hd_X0_canRise ⟨Nat.le_of_ble_eq_true rfl, Nat.le_of_ble_eq_true rfl⟩) (va_recv hK hP (ci := 0) (q0 := 0) rfl cH_at0) (Ln.id rfl) hA hK hP hD hS rfl hl.1 rfl rfl (Nat.le_of_ble_eq_true rfl) dX0_countRisable_14 (fun H locs hP hD hS => ?_)
    refine lv_if_eq (tgt := 23) hx hb dX0_countRisable_17 (by decide) (fun c_3 => ?_) (fun c_3 => ?_)
    · replace hf := if_t c_3 hf
      obtain ⟨v_4, ev_4, hf⟩ := nq_e hf
      refine lv_iinc (v := v_4) (lv' := [(2, .int v_4), (0, .ref (A 0)), (1, .int q4.1)]) hx hb dX0_countRisable_23 hl (k := 2) rfl (by rw [ev_4]; rfl) (by decide) rfl (fun ls hl => ?_)
      refine lv_goto (tgt := 4) hx hb dX0_countRisable_26 (by decide) ?_
      exact ih4 (q4.1, v_4) hf H locs ls hP hD hS (lv_sub hl [1, 2, 0] rfl)
    · replace hf := if_f c_3 hf
      obtain ⟨v_5, ev_5, hf⟩ := nq_e hf
      refine lv_iinc (v := v_5) (lv' := [(1, .int v_5), (0, .ref (A 0)), (2, .int q4.2)]) hx hb dX0_countRisable_20 hl (k := 1) rfl (by rw [ev_5]; rfl) (by decide) rfl (fun ls hl => ?_)
      obtain ⟨v_6, ev_6, hf⟩ := nq_e hf
      refine lv_iinc (v := v_6) (lv' := [(2, .int v_6), (1, .int v_5), (0, .ref (A 0))]) hx hb dX0_countRisable_23 hl (k := 2) rfl (by rw [ev_6]; rfl) (by decide) rfl (fun ls hl => ?_)
      refine lv_goto (tgt := 4) hx hb dX0_countRisable_26 (by decide) ?_
      exact ih4 (v_5, v_6) hf H locs ls hP hD hS (lv_sub hl [2, 1, 0] rfl)

def rm_X0_carried : Room := { frames := 2, cells := 0, slots := 0, locals := 44 }
theorem hd_X0_carried : yX0_carried.cls = RX0 ∧ yX0_carried.cls ≠ "java/lang/invoke/MethodHandle" ∧ yX0_carried.cls ≠ "java/lang/invoke/VarHandle" ∧ (parseMethodDescriptor yX0_carried.desc).map (fun d => d.parameters.length) = some 1 := by decide +kernel
set_option maxRecDepth 100000 in
set_option maxHeartbeats 4000000 in
theorem c_X0_carried (l : Launch) (D : va_G) (cI : ClassId) (A : Nat → Nat) (h : St) (p1 : Int32) (r : Int32) (hf : f_X0_carried h p1 = some r) : Ct l yX0_carried wsX0_carried rm_X0_carried D cI (cH cI A h) (cH cI A h) [.ref (A 0), .int p1] (some (.int r)) := by
  unfold f_X0_carried at hf
  refine Ct.ofI (cc := cX0_carried) (maxL := 2) (by decide +kernel) rfl (Nat.le_of_ble_eq_true rfl) ?_
  intro p e s m args below meth c AA Q H locs ls hx hb hml hown hts hA hK hP hD hS hl hend0
  have hend : ∀ (r1 : Int32) (H : Heap) (locs : List Loc) (pc : Nat) (ls : Array Slot), some r1 = some r → va_P D vwCl (cH cI A h) H → va_S AA s.heap H locs → decode cX0_carried pc = .ok (.ireturn, 1) → W p l e rm_X0_carried s m args below meth c H locs 0 0 Q (F0 m pc ls [.int r1]) := by
    intro r1 H locs pc ls e1 hP hS hd; cases e1; exact hend0 H locs pc ls hP hS hd
  clear hend0
  have hw0 : ∀ w ∈ wsX00, w ∈ wsX0_carried := by decide +kernel
  have k21 := hts (.fieldLink RX0 21 "AnchorsForConfession$Harbour" "kind" "[I") (by decide +kernel)
  replace hl : lv_has ls 2 [(0, .ref (A 0)), (1, .int p1)] := hl
  refine lv_aload_n hx hb dX0_carried_0 rfl (lv_at hl 0 rfl) ?_
  refine va_get (D := D) (ci := 0) (v := .ref (A 4)) (C := RX0) (T := TX0) (N := 12) hx hb hts hw0 hown hK hP 0 cH_at0 rfl 5 (by decide) k21 (fun _ h9 => h9) rfl dX0_carried_1 ?_
  refine lv_iload_n hx hb dX0_carried_4 rfl (lv_at hl 1 rfl) ?_
  obtain ⟨c_1, hf⟩ := gi_e hf
  refine va_iald hx hb hK hP 4 0 cH_at4 rfl c_1 dX0_carried_5 ?_
  by_cases c_2 : (h 4 (p1).toNatClampNeg) = 4
  · replace hf := if_t c_2 hf
    refine lv_lookup (off := 26) (tgt := 32) hx hb dX0_carried_6 (by decide) (by rw [c_2]; decide +kernel) (by decide) ?_
    refine lv_aload_n hx hb dX0_carried_32 rfl (lv_at hl 0 rfl) ?_
    refine lv_iload_n hx hb dX0_carried_33 rfl (lv_at hl 1 rfl) ?_
    obtain ⟨a_3, ha_3, hf⟩ := bd_e hf
    refine Ct.callV (As := [.int p1]) (rest := []) (st1 := [.int a_3]) (c_X0_worth l D cI A h p1 a_3 ha_3) hx hb hml hown hts (cwV 1 hts gX0_carried_X0_worth rfl rfl rfl hd_X0_worth ⟨Nat.le_of_ble_eq_true rfl, Nat.le_of_ble_eq_true rfl⟩) (va_recv hK hP (ci := 0) (q0 := 0) rfl cH_at0) (Ln.id rfl) hA hK hP hD hS rfl hl.1 rfl rfl (Nat.le_of_ble_eq_true rfl) dX0_carried_34 (fun H locs hP hD hS => ?_)
    refine lv_iconst (v := 3) hx hb dX0_carried_37 (by decide) ?_
    refine lv_idiv hx hb dX0_carried_38 (by decide) ?_
    exact hend (a_3 / (3 : Int32)) H locs _ _ hf hP hS dX0_carried_39
  · replace hf := if_f c_2 hf
    by_cases c_5 : (h 4 (p1).toNatClampNeg) = 5
    · replace hf := if_t c_5 hf
      refine lv_lookup (off := 34) (tgt := 40) hx hb dX0_carried_6 (by decide) (by rw [c_5]; decide +kernel) (by decide) ?_
      refine lv_iconst (v := 1) hx hb dX0_carried_40 (by decide) ?_
      exact hend (1 : Int32) H locs _ _ hf hP hS dX0_carried_41
    · replace hf := if_f c_5 hf
      refine lv_lookup (off := 36) (tgt := 42) hx hb dX0_carried_6 (by decide) (by show Op.lookupswitch.offset [(4, 26), (5, 34)] 36 _ = _; rw [lv_osw c_2 (by decide +kernel), lv_osw c_5 (by decide +kernel)]; rfl) (by decide) ?_
      refine lv_iconst (v := 0) hx hb dX0_carried_42 (by decide) ?_
      exact hend (0 : Int32) H locs _ _ hf hP hS dX0_carried_43

def rm_X0_sinsMore : Room := { frames := 0, cells := 0, slots := 0, locals := 0 }
theorem hd_X0_sinsMore : yX0_sinsMore.cls = RX0 ∧ yX0_sinsMore.cls ≠ "java/lang/invoke/MethodHandle" ∧ yX0_sinsMore.cls ≠ "java/lang/invoke/VarHandle" ∧ (parseMethodDescriptor yX0_sinsMore.desc).map (fun d => d.parameters.length) = some 1 := by decide +kernel
set_option maxRecDepth 100000 in
set_option maxHeartbeats 4000000 in
theorem c_X0_sinsMore (l : Launch) (D : va_G) (cI : ClassId) (A : Nat → Nat) (h : St) (p1 : Int32) (r : Int32) (hf : f_X0_sinsMore h p1 = some r) : Ct l yX0_sinsMore wsX0_sinsMore rm_X0_sinsMore D cI (cH cI A h) (cH cI A h) [.ref (A 0), .int p1] (some (.int r)) := by
  unfold f_X0_sinsMore at hf
  refine Ct.ofI (cc := cX0_sinsMore) (maxL := 2) (by decide +kernel) rfl (Nat.le_of_ble_eq_true rfl) ?_
  intro p e s m args below meth c AA Q H locs ls hx hb hml hown hts hA hK hP hD hS hl hend0
  have hend : ∀ (r1 : Int32) (H : Heap) (locs : List Loc) (pc : Nat) (ls : Array Slot), some r1 = some r → va_P D vwCl (cH cI A h) H → va_S AA s.heap H locs → decode cX0_sinsMore pc = .ok (.ireturn, 1) → W p l e rm_X0_sinsMore s m args below meth c H locs 0 0 Q (F0 m pc ls [.int r1]) := by
    intro r1 H locs pc ls e1 hP hS hd; cases e1; exact hend0 H locs pc ls hP hS hd
  clear hend0
  have hw0 : ∀ w ∈ wsX00, w ∈ wsX0_sinsMore := by decide +kernel
  have k21 := hts (.fieldLink RX0 21 "AnchorsForConfession$Harbour" "kind" "[I") (by decide +kernel)
  replace hl : lv_has ls 2 [(0, .ref (A 0)), (1, .int p1)] := hl
  refine lv_aload_n hx hb dX0_sinsMore_0 rfl (lv_at hl 0 rfl) ?_
  refine va_get (D := D) (ci := 0) (v := .ref (A 4)) (C := RX0) (T := TX0) (N := 12) hx hb hts hw0 hown hK hP 0 cH_at0 rfl 5 (by decide) k21 (fun _ h9 => h9) rfl dX0_sinsMore_1 ?_
  refine lv_iload_n hx hb dX0_sinsMore_4 rfl (lv_at hl 1 rfl) ?_
  obtain ⟨c_1, hf⟩ := gi_e hf
  refine va_iald hx hb hK hP 4 0 cH_at4 rfl c_1 dX0_sinsMore_5 ?_
  by_cases c_2 : (h 4 (p1).toNatClampNeg) = 1
  · replace hf := if_t c_2 hf
    refine lv_tableIn (off := 34) (tgt := 40) hx hb dX0_sinsMore_6 (by rw [c_2]; decide +kernel) (by rw [c_2]; decide +kernel) (by rw [c_2]; decide +kernel) (by decide) ?_
    refine lv_iconst (v := 0) hx hb dX0_sinsMore_40 (by decide) ?_
    exact hend (0 : Int32) H locs _ _ hf hP hS dX0_sinsMore_41
  · replace hf := if_f c_2 hf
    by_cases c_3 : (h 4 (p1).toNatClampNeg) = 2
    · replace hf := if_t c_3 hf
      refine lv_tableIn (off := 40) (tgt := 46) hx hb dX0_sinsMore_6 (by rw [c_3]; decide +kernel) (by rw [c_3]; decide +kernel) (by rw [c_3]; decide +kernel) (by decide) ?_
      refine lv_iconst (v := 1) hx hb dX0_sinsMore_46 (by decide) ?_
      exact hend (1 : Int32) H locs _ _ hf hP hS dX0_sinsMore_47
    · replace hf := if_f c_3 hf
      by_cases c_4 : (h 4 (p1).toNatClampNeg) = 3
      · replace hf := if_t c_4 hf
        refine lv_tableIn (off := 38) (tgt := 44) hx hb dX0_sinsMore_6 (by rw [c_4]; decide +kernel) (by rw [c_4]; decide +kernel) (by rw [c_4]; decide +kernel) (by decide) ?_
        refine lv_iconst (v := 2) hx hb dX0_sinsMore_44 (by decide) ?_
        exact hend (2 : Int32) H locs _ _ hf hP hS dX0_sinsMore_45
      · replace hf := if_f c_4 hf
        by_cases c_5 : (h 4 (p1).toNatClampNeg) = 4
        · replace hf := if_t c_5 hf
          refine lv_tableIn (off := 40) (tgt := 46) hx hb dX0_sinsMore_6 (by rw [c_5]; decide +kernel) (by rw [c_5]; decide +kernel) (by rw [c_5]; decide +kernel) (by decide) ?_
          refine lv_iconst (v := 1) hx hb dX0_sinsMore_46 (by decide) ?_
          exact hend (1 : Int32) H locs _ _ hf hP hS dX0_sinsMore_47
        · replace hf := if_f c_5 hf
          by_cases c_6 : (h 4 (p1).toNatClampNeg) = 5
          · replace hf := if_t c_6 hf
            refine lv_tableIn (off := 36) (tgt := 42) hx hb dX0_sinsMore_6 (by rw [c_6]; decide +kernel) (by rw [c_6]; decide +kernel) (by rw [c_6]; decide +kernel) (by decide) ?_
            refine lv_iconst (v := 0) hx hb dX0_sinsMore_42 (by decide) ?_
            exact hend (0 : Int32) H locs _ _ hf hP hS dX0_sinsMore_43
          · replace hf := if_f c_6 hf
            have ht : ((h 4 (p1).toNatClampNeg)).toInt < 1 ∨ 5 < ((h 4 (p1).toNatClampNeg)).toInt := by
              have t0 := lv_neT (a := 1) c_2 (by decide +kernel)
              have t1 := lv_neT (a := 2) c_3 (by decide +kernel)
              have t2 := lv_neT (a := 3) c_4 (by decide +kernel)
              have t3 := lv_neT (a := 4) c_5 (by decide +kernel)
              have t4 := lv_neT (a := 5) c_6 (by decide +kernel)
              omega
            refine lv_tableOut (tgt := 46) hx hb dX0_sinsMore_6 ht (by decide) ?_
            refine lv_iconst (v := 1) hx hb dX0_sinsMore_46 (by decide) ?_
            exact hend (1 : Int32) H locs _ _ hf hP hS dX0_sinsMore_47

def rm_X0_canTell : Room := { frames := 1, cells := 0, slots := 0, locals := 21 }
theorem hd_X0_canTell : yX0_canTell.cls = RX0 ∧ yX0_canTell.cls ≠ "java/lang/invoke/MethodHandle" ∧ yX0_canTell.cls ≠ "java/lang/invoke/VarHandle" ∧ (parseMethodDescriptor yX0_canTell.desc).map (fun d => d.parameters.length) = some 1 := by decide +kernel
set_option maxRecDepth 100000 in
set_option maxHeartbeats 4000000 in
theorem c_X0_canTell (l : Launch) (D : va_G) (cI : ClassId) (A : Nat → Nat) (h : St) (p1 : Int32) (r : Int32) (hf : f_X0_canTell h p1 = some r) : Ct l yX0_canTell wsX0_canTell rm_X0_canTell D cI (cH cI A h) (cH cI A h) [.ref (A 0), .int p1] (some (.int r)) := by
  unfold f_X0_canTell at hf
  obtain ⟨hz, hf⟩ := fz_e hf
  refine Ct.ofZ hz (cc := cX0_canTell) (maxL := 2) (by decide +kernel) rfl (Nat.le_of_ble_eq_true rfl) ?_
  intro p e s m args below meth c AA Q H locs ls hx hb hml hown hts hA hK hP hD hS hl hend0
  have hend : ∀ (r1 : Int32) (H : Heap) (locs : List Loc) (pc : Nat) (ls : Array Slot), some r1 = some r → va_P D vwCl (cH cI A h) H → va_S AA s.heap H locs → decode cX0_canTell pc = .ok (.ireturn, 1) → W p l e rm_X0_canTell s m args below meth c H locs 0 0 Q (F0 m pc ls [.int r1]) := by
    intro r1 H locs pc ls e1 hP hS hd; cases e1; exact hend0 H locs pc ls hP hS hd
  clear hend0
  have hw0 : ∀ w ∈ wsX00, w ∈ wsX0_canTell := by decide +kernel
  have k27 := hts (.fieldLink RX0 27 "AnchorsForConfession$Harbour" "sinsOf" "[I") (by decide +kernel)
  have k30 := hts (.fieldLink RX0 30 "AnchorsForConfession$Harbour" "aboard" "[I") (by decide +kernel)
  replace hl : lv_has ls 2 [(0, .ref (A 0)), (1, .int p1)] := hl
  refine lv_aload_n hx hb dX0_canTell_0 rfl (lv_at hl 0 rfl) ?_
  refine lv_iload_n hx hb dX0_canTell_1 rfl (lv_at hl 1 rfl) ?_
  obtain ⟨a_1, ha_1, hf⟩ := bd_e hf
  refine Ct.callV (As := [.int p1]) (rest := []) (st1 := [.int a_1]) (c_X0_hasMan l D cI A h p1 a_1 ha_1) hx hb hml hown hts (cwV 1 hts gX0_canTell_X0_hasMan rfl rfl rfl hd_X0_hasMan ⟨Nat.le_of_ble_eq_true rfl, Nat.le_of_ble_eq_true rfl⟩) (va_recv hK hP (ci := 0) (q0 := 0) rfl cH_at0) (Ln.id rfl) hA hK hP hD hS rfl hl.1 rfl rfl (Nat.le_of_ble_eq_true rfl) dX0_canTell_2 (fun H locs hP hD hS => ?_)
  refine lv_if_eq (tgt := 34) hx hb dX0_canTell_5 (by decide) (fun c_2 => ?_) (fun c_2 => ?_)
  · replace hf := if_t c_2 hf
    refine lv_iconst (v := 0) hx hb dX0_canTell_34 (by decide) ?_
    exact hend (0 : Int32) H locs _ _ hf hP hS dX0_canTell_35
  · replace hf := if_f c_2 hf
    refine lv_aload_n hx hb dX0_canTell_8 rfl (lv_at hl 0 rfl) ?_
    refine va_get (D := D) (ci := 0) (v := .ref (A 6)) (C := RX0) (T := TX0) (N := 12) hx hb hts hw0 hown hK hP 0 cH_at0 rfl 7 (by decide) k27 (fun _ h9 => h9) rfl dX0_canTell_9 ?_
    refine lv_iload_n hx hb dX0_canTell_12 rfl (lv_at hl 1 rfl) ?_
    obtain ⟨c_3, hf⟩ := gi_e hf
    refine va_iald hx hb hK hP 6 0 cH_at6 rfl c_3 dX0_canTell_13 ?_
    refine lv_if_le (tgt := 34) hx hb dX0_canTell_14 (by decide) (fun c_4 => ?_) (fun c_4 => ?_)
    · replace hf := if_t c_4 hf
      refine lv_iconst (v := 0) hx hb dX0_canTell_34 (by decide) ?_
      exact hend (0 : Int32) H locs _ _ hf hP hS dX0_canTell_35
    · replace hf := if_f c_4 hf
      refine lv_aload_n hx hb dX0_canTell_17 rfl (lv_at hl 0 rfl) ?_
      refine lv_aload_n hx hb dX0_canTell_18 rfl (lv_at hl 0 rfl) ?_
      refine va_get (D := D) (ci := 0) (v := .ref (A 7)) (C := RX0) (T := TX0) (N := 12) hx hb hts hw0 hown hK hP 0 cH_at0 rfl 8 (by decide) k30 (fun _ h9 => h9) rfl dX0_canTell_19 ?_
      refine lv_iload_n hx hb dX0_canTell_22 rfl (lv_at hl 1 rfl) ?_
      obtain ⟨c_5, hf⟩ := gi_e hf
      refine va_iald hx hb hK hP 7 0 cH_at7 rfl c_5 dX0_canTell_23 ?_
      obtain ⟨a_6, ha_6, hf⟩ := bd_e hf
      refine Ct.callV (As := [.int (h 7 (p1).toNatClampNeg)]) (rest := []) (st1 := [.int a_6]) (c_X0_isIn l D cI A h (h 7 (p1).toNatClampNeg) a_6 ha_6) hx hb hml hown hts (cwV 1 hts gX0_canTell_X0_isIn rfl rfl rfl hd_X0_isIn ⟨Nat.le_of_ble_eq_true rfl, Nat.le_of_ble_eq_true rfl⟩) (va_recv hK hP (ci := 0) (q0 := 0) rfl cH_at0) (Ln.id rfl) hA hK hP hD hS rfl hl.1 rfl rfl (Nat.le_of_ble_eq_true rfl) dX0_canTell_24 (fun H locs hP hD hS => ?_)
      refine lv_if_eq (tgt := 34) hx hb dX0_canTell_27 (by decide) (fun c_7 => ?_) (fun c_7 => ?_)
      · replace hf := if_t c_7 hf
        refine lv_iconst (v := 0) hx hb dX0_canTell_34 (by decide) ?_
        exact hend (0 : Int32) H locs _ _ hf hP hS dX0_canTell_35
      · replace hf := if_f c_7 hf
        refine lv_iconst (v := 1) hx hb dX0_canTell_30 (by decide) ?_
        refine lv_goto (tgt := 35) hx hb dX0_canTell_31 (by decide) ?_
        exact hend (1 : Int32) H locs _ _ hf hP hS dX0_canTell_35

def rm_X0_loosen : Room := { frames := 1, cells := 0, slots := 0, locals := 21 }
theorem hd_X0_loosen : yX0_loosen.cls = RX0 ∧ yX0_loosen.cls ≠ "java/lang/invoke/MethodHandle" ∧ yX0_loosen.cls ≠ "java/lang/invoke/VarHandle" ∧ (parseMethodDescriptor yX0_loosen.desc).map (fun d => d.parameters.length) = some 2 := by decide +kernel
set_option maxRecDepth 100000 in
set_option maxHeartbeats 4000000 in
theorem c_X0_loosen (l : Launch) (D : va_G) (cI : ClassId) (A : Nat → Nat) (h : St) (p1 : Int32) (p2 : Int32) (r : St) (hf : f_X0_loosen h p1 p2 = some r) : Ct l yX0_loosen wsX0_loosen rm_X0_loosen D cI (cH cI A h) (cH cI A r) [.ref (A 0), .int p1, .int p2] none := by
  unfold f_X0_loosen at hf
  refine Ct.ofV (cc := cX0_loosen) (maxL := 3) (by decide +kernel) rfl (Nat.le_of_ble_eq_true rfl) ?_
  intro p e s m args below meth c AA Q H locs ls hx hb hml hown hts hA hK hP hD hS hl hend0
  have hend : ∀ (r1 : St) (H : Heap) (locs : List Loc) (pc : Nat) (ls : Array Slot), some r1 = some r → va_P D vwCl (cH cI A r1) H → va_S AA s.heap H locs → decode cX0_loosen pc = .ok (.return_, 1) → W p l e rm_X0_loosen s m args below meth c H locs 0 0 Q (F0 m pc ls []) := by
    intro r1 H locs pc ls e1 hP hS hd; cases e1; exact hend0 H locs pc ls hP hS hd
  clear hend0
  have hw0 : ∀ w ∈ wsX00, w ∈ wsX0_loosen := by decide +kernel
  have k15 := hts (.fieldLink RX0 15 "AnchorsForConfession$Harbour" "loose" "[I") (by decide +kernel)
  have km91 := hts (.methodLink RX0 91 Lib.Math.min.name) (by decide +kernel)
  have ks91 := hts (.static Lib.Math.min.name) (by decide +kernel)
  have ki91 := hts (.initialized "java/lang/Math") (by decide +kernel)
  have kk91 := hts (.code Lib.Math.min.name Lib.Math.min.code 2 (some .int)) (by decide +kernel)
  replace hl : lv_has ls 3 [(0, .ref (A 0)), (1, .int p1), (2, .int p2)] := hl
  refine lv_aload_n hx hb dX0_loosen_0 rfl (lv_at hl 0 rfl) ?_
  refine lv_iload_n hx hb dX0_loosen_1 rfl (lv_at hl 1 rfl) ?_
  obtain ⟨a_1, ha_1, hf⟩ := bd_e hf
  refine Ct.callV (As := [.int p1]) (rest := []) (st1 := [.int a_1]) (c_X0_isIn l D cI A h p1 a_1 ha_1) hx hb hml hown hts (cwV 1 hts gX0_loosen_X0_isIn rfl rfl rfl hd_X0_isIn ⟨Nat.le_of_ble_eq_true rfl, Nat.le_of_ble_eq_true rfl⟩) (va_recv hK hP (ci := 0) (q0 := 0) rfl cH_at0) (Ln.id rfl) hA hK hP hD hS rfl hl.1 rfl rfl (Nat.le_of_ble_eq_true rfl) dX0_loosen_2 (fun H locs hP hD hS => ?_)
  refine lv_if_eq (tgt := 27) hx hb dX0_loosen_5 (by decide) (fun c_2 => ?_) (fun c_2 => ?_)
  · replace hf := if_t c_2 hf
    exact hend h H locs _ _ hf hP hS dX0_loosen_27
  · replace hf := if_f c_2 hf
    refine lv_aload_n hx hb dX0_loosen_8 rfl (lv_at hl 0 rfl) ?_
    refine va_get (D := D) (ci := 0) (v := .ref (A 2)) (C := RX0) (T := TX0) (N := 12) hx hb hts hw0 hown hK hP 0 cH_at0 rfl 2 (by decide) k15 (fun _ h9 => h9) rfl dX0_loosen_9 ?_
    refine lv_iload_n hx hb dX0_loosen_12 rfl (lv_at hl 1 rfl) ?_
    refine lv_bipush (v := 99) hx hb dX0_loosen_13 (by decide +kernel) ?_
    refine lv_aload_n hx hb dX0_loosen_15 rfl (lv_at hl 0 rfl) ?_
    refine va_get (D := D) (ci := 0) (v := .ref (A 2)) (C := RX0) (T := TX0) (N := 12) hx hb hts hw0 hown hK hP 0 cH_at0 rfl 2 (by decide) k15 (fun _ h9 => h9) rfl dX0_loosen_16 ?_
    refine lv_iload_n hx hb dX0_loosen_19 rfl (lv_at hl 1 rfl) ?_
    obtain ⟨c_3, hf⟩ := gi_e hf
    refine va_iald hx hb hK hP 2 0 cH_at2 rfl c_3 dX0_loosen_20 ?_
    refine lv_iload_n hx hb dX0_loosen_21 rfl (lv_at hl 2 rfl) ?_
    refine lv_iadd hx hb dX0_loosen_22 ?_
    refine va_mmin hx hb (by rw [hml]; exact hl.1.symm) hown km91 ks91 ki91 kk91 (Nat.le_of_ble_eq_true rfl) (Nat.le_of_ble_eq_true rfl) (Nat.zero_le _) (Nat.zero_le _) dX0_loosen_23 ?_
    obtain ⟨c_4, hf⟩ := gi_e hf
    refine va_iast hx hb hK hP hD hS 2 0 cH_at2 rfl c_4 dX0_loosen_26 (fun H locs hP hD hS => ?_)
    obtain ⟨h_5, eh_5, hf⟩ := nq_e hf
    rw [cH_su2, ← eh_5] at hP hD
    exact hend h_5 H locs _ _ hf hP hS dX0_loosen_27

def rm_X0_riseAll : Room := { frames := 2, cells := 0, slots := 0, locals := 42 }
theorem hd_X0_riseAll : yX0_riseAll.cls = RX0 ∧ yX0_riseAll.cls ≠ "java/lang/invoke/MethodHandle" ∧ yX0_riseAll.cls ≠ "java/lang/invoke/VarHandle" ∧ (parseMethodDescriptor yX0_riseAll.desc).map (fun d => d.parameters.length) = some 0 := by decide +kernel
set_option maxRecDepth 100000 in
set_option maxHeartbeats 4000000 in
theorem c_X0_riseAll (l : Launch) (D : va_G) (cI : ClassId) (A : Nat → Nat) (h : St) (r : Int32 × St) (hf : f_X0_riseAll h = some r) : Ct l yX0_riseAll wsX0_riseAll rm_X0_riseAll D cI (cH cI A h) (cH cI A r.2) [.ref (A 0)] (some (.int r.1)) := by
  unfold f_X0_riseAll at hf
  refine Ct.ofI (cc := cX0_riseAll) (maxL := 3) (by decide +kernel) rfl (Nat.le_of_ble_eq_true rfl) ?_
  intro p e s m args below meth c AA Q H locs ls hx hb hml hown hts hA hK hP hD hS hl hend0
  have hend : ∀ (r1 : Int32 × St) (H : Heap) (locs : List Loc) (pc : Nat) (ls : Array Slot), some r1 = some r → va_P D vwCl (cH cI A r1.2) H → va_S AA s.heap H locs → decode cX0_riseAll pc = .ok (.ireturn, 1) → W p l e rm_X0_riseAll s m args below meth c H locs 0 0 Q (F0 m pc ls [.int r1.1]) := by
    intro r1 H locs pc ls e1 hP hS hd; cases e1; exact hend0 H locs pc ls hP hS hd
  clear hend0
  have hw0 : ∀ w ∈ wsX00, w ∈ wsX0_riseAll := by decide +kernel
  have k15 := hts (.fieldLink RX0 15 "AnchorsForConfession$Harbour" "loose" "[I") (by decide +kernel)
  have k18 := hts (.fieldLink RX0 18 "AnchorsForConfession$Harbour" "outFor" "[I") (by decide +kernel)
  have k36 := hts (.fieldLink RX0 36 "AnchorsForConfession$Harbour" "ships" "I") (by decide +kernel)
  replace hl : lv_has ls 3 [(0, .ref (A 0))] := hl
  refine lv_iconst (v := 0) hx hb dX0_riseAll_0 (by decide) ?_
  refine lv_istore_n (lv' := [(1, .int (0 : Int32)), (0, .ref (A 0))]) hx hb dX0_riseAll_1 rfl hl (by decide) rfl (fun ls hl => ?_)
  refine lv_iconst (v := 0) hx hb dX0_riseAll_2 (by decide) ?_
  refine lv_istore_n (lv' := [(2, .int (0 : Int32)), (1, .int (0 : Int32)), (0, .ref (A 0))]) hx hb dX0_riseAll_3 rfl hl (by decide) rfl (fun ls hl => ?_)
  refine lp_ind (P := fun (q4 : Int32 × Int32 × St) => ∀ (H : Heap) (locs : List Loc) (ls : Array Slot), va_P D vwCl (cH cI A q4.2.2) H → va_D AA (cH cI A q4.2.2) → va_S AA s.heap H locs → lv_has ls 3 [(0, .ref (A 0)), (1, .int q4.1), (2, .int q4.2.1)] → W p l e rm_X0_riseAll s m args below meth c H locs 0 0 Q (F0 m 4 ls [])) hf ?_ H locs ls hP hD hS (lv_sub hl [2, 1, 0] rfl)
  clear hf hP hD hS hl
  intro nx4 ih4 q4 hf H locs ls hP hD hS hl
  refine lv_iload_n hx hb dX0_riseAll_4 rfl (lv_at hl 2 rfl) ?_
  refine lv_aload_n hx hb dX0_riseAll_5 rfl (lv_at hl 0 rfl) ?_
  refine va_get (D := D) (ci := 0) (v := .int (q4.2.2 16 0)) (C := RX0) (T := TX0) (N := 12) hx hb hts hw0 hown hK hP 0 cH_at0 rfl 0 (by decide) k36 (fun _ h9 => h9) rfl dX0_riseAll_6 ?_
  refine lv_icmp_ge (tgt := 57) hx hb dX0_riseAll_9 (by decide) (fun c_1 => ?_) (fun c_1 => ?_)
  · replace hf := if_t c_1 hf
    refine lv_iload_n hx hb dX0_riseAll_57 rfl (lv_at hl 1 rfl) ?_
    exact hend (q4.1, q4.2.2) H locs _ _ hf hP hS dX0_riseAll_58
  · replace hf := if_f c_1 hf
    refine lv_aload_n hx hb dX0_riseAll_12 rfl (lv_at hl 0 rfl) ?_
    refine lv_iload_n hx hb dX0_riseAll_13 rfl (lv_at hl 2 rfl) ?_
    obtain ⟨a_2, ha_2, hf⟩ := bd_e hf
    refine Ct.callV (As := [.int q4.2.1]) (rest := []) (st1 := [.int a_2]) (c_X0_isIn l D cI A q4.2.2 q4.2.1 a_2 ha_2) hx hb hml hown hts (cwV 1 hts gX0_riseAll_X0_isIn rfl rfl rfl hd_X0_isIn ⟨Nat.le_of_ble_eq_true rfl, Nat.le_of_ble_eq_true rfl⟩) (va_recv hK hP (ci := 0) (q0 := 0) rfl cH_at0) (Ln.id rfl) hA hK hP hD hS rfl hl.1 rfl rfl (Nat.le_of_ble_eq_true rfl) dX0_riseAll_14 (fun H locs hP hD hS => ?_)
    refine lv_if_eq (tgt := 51) hx hb dX0_riseAll_17 (by decide) (fun c_3 => ?_) (fun c_3 => ?_)
    · replace hf := if_t c_3 hf
      obtain ⟨v_4, ev_4, hf⟩ := nq_e hf
      refine lv_iinc (v := v_4) (lv' := [(2, .int v_4), (0, .ref (A 0)), (1, .int q4.1)]) hx hb dX0_riseAll_51 hl (k := 2) rfl (by rw [ev_4]; rfl) (by decide) rfl (fun ls hl => ?_)
      refine lv_goto (tgt := 4) hx hb dX0_riseAll_54 (by decide) ?_
      exact ih4 (q4.1, v_4, q4.2.2) hf H locs ls hP hD hS (lv_sub hl [1, 2, 0] rfl)
    · replace hf := if_f c_3 hf
      refine lv_aload_n hx hb dX0_riseAll_20 rfl (lv_at hl 0 rfl) ?_
      refine va_get (D := D) (ci := 0) (v := .ref (A 2)) (C := RX0) (T := TX0) (N := 12) hx hb hts hw0 hown hK hP 0 cH_at0 rfl 2 (by decide) k15 (fun _ h9 => h9) rfl dX0_riseAll_21 ?_
      refine lv_iload_n hx hb dX0_riseAll_24 rfl (lv_at hl 2 rfl) ?_
      obtain ⟨c_5, hf⟩ := gi_e hf
      refine va_iald hx hb hK hP 2 0 cH_at2 rfl c_5 dX0_riseAll_25 ?_
      refine lv_aload_n hx hb dX0_riseAll_26 rfl (lv_at hl 0 rfl) ?_
      refine lv_iload_n hx hb dX0_riseAll_27 rfl (lv_at hl 2 rfl) ?_
      obtain ⟨a_6, ha_6, hf⟩ := bd_e hf
      refine Ct.callV (As := [.int q4.2.1]) (rest := [.int (q4.2.2 2 (q4.2.1).toNatClampNeg)]) (st1 := [.int a_6, .int (q4.2.2 2 (q4.2.1).toNatClampNeg)]) (c_X0_holds l D cI A q4.2.2 q4.2.1 a_6 ha_6) hx hb hml hown hts (cwV 1 hts gX0_riseAll_X0_holds rfl rfl rfl hd_X0_holds ⟨Nat.le_of_ble_eq_true rfl, Nat.le_of_ble_eq_true rfl⟩) (va_recv hK hP (ci := 0) (q0 := 0) rfl cH_at0) (Ln.id rfl) hA hK hP hD hS rfl hl.1 rfl rfl (Nat.le_of_ble_eq_true rfl) dX0_riseAll_28 (fun H locs hP hD hS => ?_)
      refine lv_icmp_lt (tgt := 51) hx hb dX0_riseAll_31 (by decide) (fun c_7 => ?_) (fun c_7 => ?_)
      · replace hf := if_t c_7 hf
        obtain ⟨v_8, ev_8, hf⟩ := nq_e hf
        refine lv_iinc (v := v_8) (lv' := [(2, .int v_8), (0, .ref (A 0)), (1, .int q4.1)]) hx hb dX0_riseAll_51 hl (k := 2) rfl (by rw [ev_8]; rfl) (by decide) rfl (fun ls hl => ?_)
        refine lv_goto (tgt := 4) hx hb dX0_riseAll_54 (by decide) ?_
        exact ih4 (q4.1, v_8, q4.2.2) hf H locs ls hP hD hS (lv_sub hl [1, 2, 0] rfl)
      · replace hf := if_f c_7 hf
        refine lv_aload_n hx hb dX0_riseAll_34 rfl (lv_at hl 0 rfl) ?_
        refine va_get (D := D) (ci := 0) (v := .ref (A 3)) (C := RX0) (T := TX0) (N := 12) hx hb hts hw0 hown hK hP 0 cH_at0 rfl 3 (by decide) k18 (fun _ h9 => h9) rfl dX0_riseAll_35 ?_
        refine lv_iload_n hx hb dX0_riseAll_38 rfl (lv_at hl 2 rfl) ?_
        refine lv_iconst (v := 3) hx hb dX0_riseAll_39 (by decide) ?_
        obtain ⟨c_9, hf⟩ := gi_e hf
        refine va_iast hx hb hK hP hD hS 3 0 cH_at3 rfl c_9 dX0_riseAll_40 (fun H locs hP hD hS => ?_)
        obtain ⟨h_10, eh_10, hf⟩ := nq_e hf
        rw [cH_su3, ← eh_10] at hP hD
        refine lv_aload_n hx hb dX0_riseAll_41 rfl (lv_at hl 0 rfl) ?_
        refine va_get (D := D) (ci := 0) (v := .ref (A 2)) (C := RX0) (T := TX0) (N := 12) hx hb hts hw0 hown hK hP 0 cH_at0 rfl 2 (by decide) k15 (fun _ h9 => h9) rfl dX0_riseAll_42 ?_
        refine lv_iload_n hx hb dX0_riseAll_45 rfl (lv_at hl 2 rfl) ?_
        refine lv_iconst (v := 0) hx hb dX0_riseAll_46 (by decide) ?_
        obtain ⟨c_11, hf⟩ := gi_e hf
        refine va_iast hx hb hK hP hD hS 2 0 cH_at2 rfl c_11 dX0_riseAll_47 (fun H locs hP hD hS => ?_)
        obtain ⟨h_12, eh_12, hf⟩ := nq_e hf
        rw [cH_su2, ← eh_12] at hP hD
        obtain ⟨v_13, ev_13, hf⟩ := nq_e hf
        refine lv_iinc (v := v_13) (lv' := [(1, .int v_13), (0, .ref (A 0)), (2, .int q4.2.1)]) hx hb dX0_riseAll_48 hl (k := 1) rfl (by rw [ev_13]; rfl) (by decide) rfl (fun ls hl => ?_)
        obtain ⟨v_14, ev_14, hf⟩ := nq_e hf
        refine lv_iinc (v := v_14) (lv' := [(2, .int v_14), (1, .int v_13), (0, .ref (A 0))]) hx hb dX0_riseAll_51 hl (k := 2) rfl (by rw [ev_14]; rfl) (by decide) rfl (fun ls hl => ?_)
        refine lv_goto (tgt := 4) hx hb dX0_riseAll_54 (by decide) ?_
        exact ih4 (v_13, v_14, h_12) hf H locs ls hP hD hS (lv_sub hl [2, 1, 0] rfl)

def rm_X0_word : Room := { frames := 3, cells := 0, slots := 0, locals := 65 }
theorem hd_X0_word : yX0_word.cls = RX0 ∧ yX0_word.cls ≠ "java/lang/invoke/MethodHandle" ∧ yX0_word.cls ≠ "java/lang/invoke/VarHandle" ∧ (parseMethodDescriptor yX0_word.desc).map (fun d => d.parameters.length) = some 1 := by decide +kernel
set_option maxRecDepth 100000 in
set_option maxHeartbeats 4000000 in
theorem c_X0_word (l : Launch) (D : va_G) (cI : ClassId) (A : Nat → Nat) (h : St) (p1 : Int32) (r : Int32 × St) (hf : f_X0_word h p1 = some r) : Ct l yX0_word wsX0_word rm_X0_word D cI (cH cI A h) (cH cI A r.2) [.ref (A 0), .int p1] (some (.int r.1)) := by
  unfold f_X0_word at hf
  refine Ct.ofI (cc := cX0_word) (maxL := 5) (by decide +kernel) rfl (Nat.le_of_ble_eq_true rfl) ?_
  intro p e s m args below meth c AA Q H locs ls hx hb hml hown hts hA hK hP hD hS hl hend0
  have hend : ∀ (r1 : Int32 × St) (H : Heap) (locs : List Loc) (pc : Nat) (ls : Array Slot), some r1 = some r → va_P D vwCl (cH cI A r1.2) H → va_S AA s.heap H locs → decode cX0_word pc = .ok (.ireturn, 1) → W p l e rm_X0_word s m args below meth c H locs 0 0 Q (F0 m pc ls [.int r1.1]) := by
    intro r1 H locs pc ls e1 hP hS hd; cases e1; exact hend0 H locs pc ls hP hS hd
  clear hend0
  have hw0 : ∀ w ∈ wsX00, w ∈ wsX0_word := by decide +kernel
  have k27 := hts (.fieldLink RX0 27 "AnchorsForConfession$Harbour" "sinsOf" "[I") (by decide +kernel)
  have k30 := hts (.fieldLink RX0 30 "AnchorsForConfession$Harbour" "aboard" "[I") (by decide +kernel)
  have k36 := hts (.fieldLink RX0 36 "AnchorsForConfession$Harbour" "ships" "I") (by decide +kernel)
  have k43 := hts (.fieldLink RX0 43 "AnchorsForConfession$Harbour" "heard" "I") (by decide +kernel)
  have km91 := hts (.methodLink RX0 91 Lib.Math.min.name) (by decide +kernel)
  have ks91 := hts (.static Lib.Math.min.name) (by decide +kernel)
  have ki91 := hts (.initialized "java/lang/Math") (by decide +kernel)
  have kk91 := hts (.code Lib.Math.min.name Lib.Math.min.code 2 (some .int)) (by decide +kernel)
  replace hl : lv_has ls 5 [(0, .ref (A 0)), (1, .int p1)] := hl
  refine lv_aload_n hx hb dX0_word_0 rfl (lv_at hl 0 rfl) ?_
  refine lv_iload_n hx hb dX0_word_1 rfl (lv_at hl 1 rfl) ?_
  obtain ⟨a_1, ha_1, hf⟩ := bd_e hf
  refine Ct.callV (As := [.int p1]) (rest := []) (st1 := [.int a_1]) (c_X0_canTell l D cI A h p1 a_1 ha_1) hx hb hml hown hts (cwV 1 hts gX0_word_X0_canTell rfl rfl rfl hd_X0_canTell ⟨Nat.le_of_ble_eq_true rfl, Nat.le_of_ble_eq_true rfl⟩) (va_recv hK hP (ci := 0) (q0 := 0) rfl cH_at0) (Ln.id rfl) hA hK hP hD hS rfl hl.1 rfl rfl (Nat.le_of_ble_eq_true rfl) dX0_word_2 (fun H locs hP hD hS => ?_)
  refine lv_if_ne (tgt := 10) hx hb dX0_word_5 (by decide) (fun c_2 => ?_) (fun c_2 => ?_)
  · replace hf := if_f c_2 hf
    refine lv_aload_n hx hb dX0_word_10 rfl (lv_at hl 0 rfl) ?_
    refine lv_iload_n hx hb dX0_word_11 rfl (lv_at hl 1 rfl) ?_
    obtain ⟨a_3, ha_3, hf⟩ := bd_e hf
    refine Ct.callV (As := [.int p1]) (rest := []) (st1 := [.int a_3]) (c_X0_worth l D cI A h p1 a_3 ha_3) hx hb hml hown hts (cwV 1 hts gX0_word_X0_worth rfl rfl rfl hd_X0_worth ⟨Nat.le_of_ble_eq_true rfl, Nat.le_of_ble_eq_true rfl⟩) (va_recv hK hP (ci := 0) (q0 := 0) rfl cH_at0) (Ln.id rfl) hA hK hP hD hS rfl hl.1 rfl rfl (Nat.le_of_ble_eq_true rfl) dX0_word_12 (fun H locs hP hD hS => ?_)
    refine lv_istore_n (lv' := [(2, .int a_3), (0, .ref (A 0)), (1, .int p1)]) hx hb dX0_word_15 rfl hl (by decide) rfl (fun ls hl => ?_)
    refine lv_aload_n hx hb dX0_word_16 rfl (lv_at hl 1 rfl) ?_
    refine lv_iload_n hx hb dX0_word_17 rfl (lv_at hl 2 rfl) ?_
    obtain ⟨a_4, ha_4, hf⟩ := bd_e hf
    refine Ct.callV (As := [.int p1]) (rest := []) (st1 := [.int a_4]) (c_X0_carried l D cI A h p1 a_4 ha_4) hx hb hml hown hts (cwV 1 hts gX0_word_X0_carried rfl rfl rfl hd_X0_carried ⟨Nat.le_of_ble_eq_true rfl, Nat.le_of_ble_eq_true rfl⟩) (va_recv hK hP (ci := 0) (q0 := 0) rfl cH_at0) (Ln.id rfl) hA hK hP hD hS rfl hl.1 rfl rfl (Nat.le_of_ble_eq_true rfl) dX0_word_18 (fun H locs hP hD hS => ?_)
    refine lv_istore_n (lv' := [(3, .int a_4), (2, .int a_3), (0, .ref (A 0)), (1, .int p1)]) hx hb dX0_word_21 rfl hl (by decide) rfl (fun ls hl => ?_)
    refine lv_aload_n hx hb dX0_word_22 rfl (lv_at hl 2 rfl) ?_
    refine va_get (D := D) (ci := 0) (v := .ref (A 6)) (C := RX0) (T := TX0) (N := 12) hx hb hts hw0 hown hK hP 0 cH_at0 rfl 7 (by decide) k27 (fun _ h9 => h9) rfl dX0_word_23 ?_
    refine lv_iload_n hx hb dX0_word_26 rfl (lv_at hl 3 rfl) ?_
    refine lv_dup2_11 hx hb dX0_word_27 rfl rfl ?_
    obtain ⟨c_5, hf⟩ := gi_e hf
    refine va_iald hx hb hK hP 6 0 cH_at6 rfl c_5 dX0_word_28 ?_
    refine lv_iconst (v := 1) hx hb dX0_word_29 (by decide) ?_
    refine lv_isub hx hb dX0_word_30 ?_
    obtain ⟨c_6, hf⟩ := gi_e hf
    refine va_iast hx hb hK hP hD hS 6 0 cH_at6 rfl c_6 dX0_word_31 (fun H locs hP hD hS => ?_)
    obtain ⟨h_7, eh_7, hf⟩ := nq_e hf
    rw [cH_su6, ← eh_7] at hP hD
    refine lv_aload_n hx hb dX0_word_32 rfl (lv_at hl 2 rfl) ?_
    refine lv_sipush (v := 999) hx hb dX0_word_33 (by decide +kernel) ?_
    refine lv_aload_n hx hb dX0_word_36 rfl (lv_at hl 2 rfl) ?_
    refine va_get (D := D) (ci := 0) (v := .int (h_7 16 2)) (C := RX0) (T := TX0) (N := 12) hx hb hts hw0 hown hK hP 0 cH_at0 rfl 9 (by decide) k43 (fun _ h9 => h9) rfl dX0_word_37 ?_
    refine lv_iconst (v := 1) hx hb dX0_word_40 (by decide) ?_
    refine lv_iadd hx hb dX0_word_41 ?_
    refine va_mmin hx hb (by rw [hml]; exact hl.1.symm) hown km91 ks91 ki91 kk91 (Nat.le_of_ble_eq_true rfl) (Nat.le_of_ble_eq_true rfl) (Nat.zero_le _) (Nat.zero_le _) dX0_word_42 ?_
    refine va_put (D := D) (ci := 0) (v := .int (if ((h_7 16 2) + (1 : Int32)) < (999 : Int32) then ((h_7 16 2) + (1 : Int32)) else (999 : Int32))) (ty := .int) (C := RX0) (T := TX0) (N := 12) hx hb hts hw0 tyX0 tyX0_ok nmX0 hown hK hP hD hS 0 cH_at0 rfl 9 (by decide) k43 (fun _ h9 => h9) rfl (tyX0_ok 9 (by decide)) rfl rfl (Nat.le_of_ble_eq_true rfl) dX0_word_45 (fun H locs hP hD hS => ?_)
    obtain ⟨h_8, eh_8, hf⟩ := nq_e hf
    rw [cH_sc0_9, ← eh_8] at hP hD
    refine lv_iconst (v := 0) hx hb dX0_word_48 (by decide) ?_
    refine lv_istore (lv' := [(4, .int (0 : Int32)), (3, .int a_4), (2, .int a_3), (0, .ref (A 0)), (1, .int p1)]) hx hb dX0_word_49 hl (by decide) rfl (fun ls hl => ?_)
    refine lp_ind (P := fun (q51 : Int32 × St) => ∀ (H : Heap) (locs : List Loc) (ls : Array Slot), va_P D vwCl (cH cI A q51.2) H → va_D AA (cH cI A q51.2) → va_S AA s.heap H locs → lv_has ls 5 [(0, .ref (A 0)), (1, .int p1), (2, .int a_3), (3, .int a_4), (4, .int q51.1)] → W p l e rm_X0_word s m args below meth c H locs 0 0 Q (F0 m 51 ls [])) hf ?_ H locs ls hP hD hS (lv_sub hl [3, 4, 2, 1, 0] rfl)
    clear hf hP hD hS hl
    intro nx51 ih51 q51 hf H locs ls hP hD hS hl
    refine lv_iload hx hb dX0_word_51 (lv_at hl 4 rfl) ?_
    refine lv_aload_n hx hb dX0_word_53 rfl (lv_at hl 0 rfl) ?_
    refine va_get (D := D) (ci := 0) (v := .int (q51.2 16 0)) (C := RX0) (T := TX0) (N := 12) hx hb hts hw0 hown hK hP 0 cH_at0 rfl 0 (by decide) k36 (fun _ h9 => h9) rfl dX0_word_54 ?_
    refine lv_icmp_ge (tgt := 88) hx hb dX0_word_57 (by decide) (fun c_9 => ?_) (fun c_9 => ?_)
    · replace hf := if_t c_9 hf
      refine lv_aload_n hx hb dX0_word_88 rfl (lv_at hl 0 rfl) ?_
      obtain ⟨a_10, ha_10, hf⟩ := bd_e hf
      refine Ct.callV (As := []) (rest := []) (st1 := [.int a_10.1]) (c_X0_riseAll l D cI A q51.2 a_10 ha_10) hx hb hml hown hts (cwV 0 hts gX0_word_X0_riseAll rfl rfl rfl hd_X0_riseAll ⟨Nat.le_of_ble_eq_true rfl, Nat.le_of_ble_eq_true rfl⟩) (va_recv hK hP (ci := 0) (q0 := 0) rfl cH_at0) (Ln.id rfl) hA hK hP hD hS rfl hl.1 rfl rfl (Nat.le_of_ble_eq_true rfl) dX0_word_89 (fun H locs hP hD hS => ?_)
      replace hP : va_P D vwCl (cH cI A a_10.2) H := hP
      replace hD : va_D AA (cH cI A a_10.2) := hD
      exact hend (a_10.1, a_10.2) H locs _ _ hf hP hS dX0_word_92
    · replace hf := if_f c_9 hf
      refine lv_aload_n hx hb dX0_word_60 rfl (lv_at hl 0 rfl) ?_
      refine lv_iload hx hb dX0_word_61 (lv_at hl 4 rfl) ?_
      refine lv_iload hx hb dX0_word_63 (lv_at hl 4 rfl) ?_
      refine lv_aload_n hx hb dX0_word_65 rfl (lv_at hl 0 rfl) ?_
      refine va_get (D := D) (ci := 0) (v := .ref (A 7)) (C := RX0) (T := TX0) (N := 12) hx hb hts hw0 hown hK hP 0 cH_at0 rfl 8 (by decide) k30 (fun _ h9 => h9) rfl dX0_word_66 ?_
      refine lv_iload_n hx hb dX0_word_69 rfl (lv_at hl 1 rfl) ?_
      obtain ⟨c_11, hf⟩ := gi_e hf
      refine va_iald hx hb hK hP 7 0 cH_at7 rfl c_11 dX0_word_70 ?_
      refine lv_icmp_ne (tgt := 78) hx hb dX0_word_71 (by decide) (fun c_12 => ?_) (fun c_12 => ?_)
      · replace hf := if_f c_12 hf
        refine lv_iload_n hx hb dX0_word_78 rfl (lv_at hl 3 rfl) ?_
        obtain ⟨a_13, ha_13, hf⟩ := bd_e hf
        refine Ct.callV (As := [.int q51.1, .int a_4]) (rest := []) (st1 := []) (c_X0_loosen l D cI A q51.2 q51.1 a_4 a_13 ha_13) hx hb hml hown hts (cwV 2 hts gX0_word_X0_loosen rfl rfl rfl hd_X0_loosen ⟨Nat.le_of_ble_eq_true rfl, Nat.le_of_ble_eq_true rfl⟩) (va_recv hK hP (ci := 0) (q0 := 0) rfl cH_at0) (Ln.id rfl) hA hK hP hD hS rfl hl.1 rfl rfl (Nat.le_of_ble_eq_true rfl) dX0_word_79 (fun H locs hP hD hS => ?_)
        replace hP : va_P D vwCl (cH cI A a_13) H := hP
        replace hD : va_D AA (cH cI A a_13) := hD
        obtain ⟨v_14, ev_14, hf⟩ := nq_e hf
        refine lv_iinc (v := v_14) (lv' := [(4, .int v_14), (0, .ref (A 0)), (1, .int p1), (2, .int a_3), (3, .int a_4)]) hx hb dX0_word_82 hl (k := 4) rfl (by rw [ev_14]; rfl) (by decide) rfl (fun ls hl => ?_)
        refine lv_goto (tgt := 51) hx hb dX0_word_85 (by decide) ?_
        exact ih51 (v_14, a_13) hf H locs ls hP hD hS (lv_sub hl [1, 2, 3, 4, 0] rfl)
      · replace hf := if_t c_12 hf
        refine lv_iload_n hx hb dX0_word_74 rfl (lv_at hl 2 rfl) ?_
        refine lv_goto (tgt := 79) hx hb dX0_word_75 (by decide) ?_
        obtain ⟨a_15, ha_15, hf⟩ := bd_e hf
        refine Ct.callV (As := [.int q51.1, .int a_3]) (rest := []) (st1 := []) (c_X0_loosen l D cI A q51.2 q51.1 a_3 a_15 ha_15) hx hb hml hown hts (cwV 2 hts gX0_word_X0_loosen rfl rfl rfl hd_X0_loosen ⟨Nat.le_of_ble_eq_true rfl, Nat.le_of_ble_eq_true rfl⟩) (va_recv hK hP (ci := 0) (q0 := 0) rfl cH_at0) (Ln.id rfl) hA hK hP hD hS rfl hl.1 rfl rfl (Nat.le_of_ble_eq_true rfl) dX0_word_79 (fun H locs hP hD hS => ?_)
        replace hP : va_P D vwCl (cH cI A a_15) H := hP
        replace hD : va_D AA (cH cI A a_15) := hD
        obtain ⟨v_16, ev_16, hf⟩ := nq_e hf
        refine lv_iinc (v := v_16) (lv' := [(4, .int v_16), (0, .ref (A 0)), (1, .int p1), (2, .int a_3), (3, .int a_4)]) hx hb dX0_word_82 hl (k := 4) rfl (by rw [ev_16]; rfl) (by decide) rfl (fun ls hl => ?_)
        refine lv_goto (tgt := 51) hx hb dX0_word_85 (by decide) ?_
        exact ih51 (v_16, a_15) hf H locs ls hP hD hS (lv_sub hl [1, 2, 3, 4, 0] rfl)
  · replace hf := if_t c_2 hf
    refine lv_iconst (v := 0) hx hb dX0_word_8 (by decide) ?_
    exact hend ((0 : Int32), h) H locs _ _ hf hP hS dX0_word_9

def rm_X0_storms : Room := { frames := 3, cells := 0, slots := 0, locals := 64 }
theorem hd_X0_storms : yX0_storms.cls = RX0 ∧ yX0_storms.cls ≠ "java/lang/invoke/MethodHandle" ∧ yX0_storms.cls ≠ "java/lang/invoke/VarHandle" ∧ (parseMethodDescriptor yX0_storms.desc).map (fun d => d.parameters.length) = some 0 := by decide +kernel
set_option maxRecDepth 100000 in
set_option maxHeartbeats 4000000 in
theorem c_X0_storms (l : Launch) (D : va_G) (cI : ClassId) (A : Nat → Nat) (h : St) (r : St) (hf : f_X0_storms h = some r) : Ct l yX0_storms wsX0_storms rm_X0_storms D cI (cH cI A h) (cH cI A r) [.ref (A 0)] none := by
  unfold f_X0_storms at hf
  refine Ct.ofV (cc := cX0_storms) (maxL := 2) (by decide +kernel) rfl (Nat.le_of_ble_eq_true rfl) ?_
  intro p e s m args below meth c AA Q H locs ls hx hb hml hown hts hA hK hP hD hS hl hend0
  have hend : ∀ (r1 : St) (H : Heap) (locs : List Loc) (pc : Nat) (ls : Array Slot), some r1 = some r → va_P D vwCl (cH cI A r1) H → va_S AA s.heap H locs → decode cX0_storms pc = .ok (.return_, 1) → W p l e rm_X0_storms s m args below meth c H locs 0 0 Q (F0 m pc ls []) := by
    intro r1 H locs pc ls e1 hP hS hd; cases e1; exact hend0 H locs pc ls hP hS hd
  clear hend0
  have hw0 : ∀ w ∈ wsX00, w ∈ wsX0_storms := by decide +kernel
  have k36 := hts (.fieldLink RX0 36 "AnchorsForConfession$Harbour" "ships" "I") (by decide +kernel)
  replace hl : lv_has ls 2 [(0, .ref (A 0))] := hl
  refine lv_iconst (v := 0) hx hb dX0_storms_0 (by decide) ?_
  refine lv_istore_n (lv' := [(1, .int (0 : Int32)), (0, .ref (A 0))]) hx hb dX0_storms_1 rfl hl (by decide) rfl (fun ls hl => ?_)
  refine lp_ind (P := fun (q2 : Int32 × St) => ∀ (H : Heap) (locs : List Loc) (ls : Array Slot), va_P D vwCl (cH cI A q2.2) H → va_D AA (cH cI A q2.2) → va_S AA s.heap H locs → lv_has ls 2 [(0, .ref (A 0)), (1, .int q2.1)] → W p l e rm_X0_storms s m args below meth c H locs 0 0 Q (F0 m 2 ls [])) hf ?_ H locs ls hP hD hS (lv_sub hl [1, 0] rfl)
  clear hf hP hD hS hl
  intro nx2 ih2 q2 hf H locs ls hP hD hS hl
  refine lv_iload_n hx hb dX0_storms_2 rfl (lv_at hl 1 rfl) ?_
  refine lv_aload_n hx hb dX0_storms_3 rfl (lv_at hl 0 rfl) ?_
  refine va_get (D := D) (ci := 0) (v := .int (q2.2 16 0)) (C := RX0) (T := TX0) (N := 12) hx hb hts hw0 hown hK hP 0 cH_at0 rfl 0 (by decide) k36 (fun _ h9 => h9) rfl dX0_storms_4 ?_
  refine lv_icmp_ge (tgt := 22) hx hb dX0_storms_7 (by decide) (fun c_1 => ?_) (fun c_1 => ?_)
  · replace hf := if_t c_1 hf
    refine lv_aload_n hx hb dX0_storms_22 rfl (lv_at hl 0 rfl) ?_
    obtain ⟨a_2, ha_2, hf⟩ := bd_e hf
    refine Ct.callV (As := []) (rest := []) (st1 := [.int a_2.1]) (c_X0_riseAll l D cI A q2.2 a_2 ha_2) hx hb hml hown hts (cwV 0 hts gX0_storms_X0_riseAll rfl rfl rfl hd_X0_riseAll ⟨Nat.le_of_ble_eq_true rfl, Nat.le_of_ble_eq_true rfl⟩) (va_recv hK hP (ci := 0) (q0 := 0) rfl cH_at0) (Ln.id rfl) hA hK hP hD hS rfl hl.1 rfl rfl (Nat.le_of_ble_eq_true rfl) dX0_storms_23 (fun H locs hP hD hS => ?_)
    replace hP : va_P D vwCl (cH cI A a_2.2) H := hP
    replace hD : va_D AA (cH cI A a_2.2) := hD
    refine lv_pop hx hb dX0_storms_26 rfl ?_
    exact hend a_2.2 H locs _ _ hf hP hS dX0_storms_27
  · replace hf := if_f c_1 hf
    refine lv_aload_n hx hb dX0_storms_10 rfl (lv_at hl 0 rfl) ?_
    refine lv_iload_n hx hb dX0_storms_11 rfl (lv_at hl 1 rfl) ?_
    refine lv_iconst (v := 2) hx hb dX0_storms_12 (by decide) ?_
    obtain ⟨a_3, ha_3, hf⟩ := bd_e hf
    refine Ct.callV (As := [.int q2.1, .int (2 : Int32)]) (rest := []) (st1 := []) (c_X0_loosen l D cI A q2.2 q2.1 (2 : Int32) a_3 ha_3) hx hb hml hown hts (cwV 2 hts gX0_storms_X0_loosen rfl rfl rfl hd_X0_loosen ⟨Nat.le_of_ble_eq_true rfl, Nat.le_of_ble_eq_true rfl⟩) (va_recv hK hP (ci := 0) (q0 := 0) rfl cH_at0) (Ln.id rfl) hA hK hP hD hS rfl hl.1 rfl rfl (Nat.le_of_ble_eq_true rfl) dX0_storms_13 (fun H locs hP hD hS => ?_)
    replace hP : va_P D vwCl (cH cI A a_3) H := hP
    replace hD : va_D AA (cH cI A a_3) := hD
    obtain ⟨v_4, ev_4, hf⟩ := nq_e hf
    refine lv_iinc (v := v_4) (lv' := [(1, .int v_4), (0, .ref (A 0))]) hx hb dX0_storms_16 hl (k := 1) rfl (by rw [ev_4]; rfl) (by decide) rfl (fun ls hl => ?_)
    refine lv_goto (tgt := 2) hx hb dX0_storms_19 (by decide) ?_
    exact ih2 (v_4, a_3) hf H locs ls hP hD hS (lv_sub hl [1, 0] rfl)

def rm_X0_hasTidesLeft : Room := { frames := 0, cells := 0, slots := 0, locals := 0 }
theorem hd_X0_hasTidesLeft : yX0_hasTidesLeft.cls = RX0 ∧ yX0_hasTidesLeft.cls ≠ "java/lang/invoke/MethodHandle" ∧ yX0_hasTidesLeft.cls ≠ "java/lang/invoke/VarHandle" ∧ (parseMethodDescriptor yX0_hasTidesLeft.desc).map (fun d => d.parameters.length) = some 1 := by decide +kernel
set_option maxRecDepth 100000 in
set_option maxHeartbeats 4000000 in
theorem c_X0_hasTidesLeft (l : Launch) (D : va_G) (cI : ClassId) (A : Nat → Nat) (h : St) (p1 : Int32) (r : Int32) (hf : f_X0_hasTidesLeft h p1 = some r) : Ct l yX0_hasTidesLeft wsX0_hasTidesLeft rm_X0_hasTidesLeft D cI (cH cI A h) (cH cI A h) [.ref (A 0), .int p1] (some (.int r)) := by
  unfold f_X0_hasTidesLeft at hf
  obtain ⟨hz, hf⟩ := fz_e hf
  refine Ct.ofZ hz (cc := cX0_hasTidesLeft) (maxL := 2) (by decide +kernel) rfl (Nat.le_of_ble_eq_true rfl) ?_
  intro p e s m args below meth c AA Q H locs ls hx hb hml hown hts hA hK hP hD hS hl hend0
  have hend : ∀ (r1 : Int32) (H : Heap) (locs : List Loc) (pc : Nat) (ls : Array Slot), some r1 = some r → va_P D vwCl (cH cI A h) H → va_S AA s.heap H locs → decode cX0_hasTidesLeft pc = .ok (.ireturn, 1) → W p l e rm_X0_hasTidesLeft s m args below meth c H locs 0 0 Q (F0 m pc ls [.int r1]) := by
    intro r1 H locs pc ls e1 hP hS hd; cases e1; exact hend0 H locs pc ls hP hS hd
  clear hend0
  have hw0 : ∀ w ∈ wsX00, w ∈ wsX0_hasTidesLeft := by decide +kernel
  have k46 := hts (.fieldLink RX0 46 "AnchorsForConfession$Harbour" "tide" "I") (by decide +kernel)
  replace hl : lv_has ls 2 [(0, .ref (A 0)), (1, .int p1)] := hl
  refine lv_iload_n hx hb dX0_hasTidesLeft_0 rfl (lv_at hl 1 rfl) ?_
  refine lv_sipush (v := 999) hx hb dX0_hasTidesLeft_1 (by decide +kernel) ?_
  refine lv_aload_n hx hb dX0_hasTidesLeft_4 rfl (lv_at hl 0 rfl) ?_
  refine va_get (D := D) (ci := 0) (v := .int (h 16 3)) (C := RX0) (T := TX0) (N := 12) hx hb hts hw0 hown hK hP 0 cH_at0 rfl 10 (by decide) k46 (fun _ h9 => h9) rfl dX0_hasTidesLeft_5 ?_
  refine lv_isub hx hb dX0_hasTidesLeft_8 ?_
  refine lv_icmp_gt (tgt := 16) hx hb dX0_hasTidesLeft_9 (by decide) (fun c_1 => ?_) (fun c_1 => ?_)
  · replace hf := if_t c_1 hf
    refine lv_iconst (v := 0) hx hb dX0_hasTidesLeft_16 (by decide) ?_
    exact hend (0 : Int32) H locs _ _ hf hP hS dX0_hasTidesLeft_17
  · replace hf := if_f c_1 hf
    refine lv_iconst (v := 1) hx hb dX0_hasTidesLeft_12 (by decide) ?_
    refine lv_goto (tgt := 17) hx hb dX0_hasTidesLeft_13 (by decide) ?_
    exact hend (1 : Int32) H locs _ _ hf hP hS dX0_hasTidesLeft_17

def rm_X0_passTide : Room := { frames := 1, cells := 0, slots := 0, locals := 21 }
theorem hd_X0_passTide : yX0_passTide.cls = RX0 ∧ yX0_passTide.cls ≠ "java/lang/invoke/MethodHandle" ∧ yX0_passTide.cls ≠ "java/lang/invoke/VarHandle" ∧ (parseMethodDescriptor yX0_passTide.desc).map (fun d => d.parameters.length) = some 0 := by decide +kernel
set_option maxRecDepth 100000 in
set_option maxHeartbeats 4000000 in
theorem c_X0_passTide (l : Launch) (D : va_G) (cI : ClassId) (A : Nat → Nat) (h : St) (r : St) (hf : f_X0_passTide h = some r) : Ct l yX0_passTide wsX0_passTide rm_X0_passTide D cI (cH cI A h) (cH cI A r) [.ref (A 0)] none := by
  unfold f_X0_passTide at hf
  refine Ct.ofV (cc := cX0_passTide) (maxL := 2) (by decide +kernel) rfl (Nat.le_of_ble_eq_true rfl) ?_
  intro p e s m args below meth c AA Q H locs ls hx hb hml hown hts hA hK hP hD hS hl hend0
  have hend : ∀ (r1 : St) (H : Heap) (locs : List Loc) (pc : Nat) (ls : Array Slot), some r1 = some r → va_P D vwCl (cH cI A r1) H → va_S AA s.heap H locs → decode cX0_passTide pc = .ok (.return_, 1) → W p l e rm_X0_passTide s m args below meth c H locs 0 0 Q (F0 m pc ls []) := by
    intro r1 H locs pc ls e1 hP hS hd; cases e1; exact hend0 H locs pc ls hP hS hd
  clear hend0
  have hw0 : ∀ w ∈ wsX00, w ∈ wsX0_passTide := by decide +kernel
  have k18 := hts (.fieldLink RX0 18 "AnchorsForConfession$Harbour" "outFor" "[I") (by decide +kernel)
  have k27 := hts (.fieldLink RX0 27 "AnchorsForConfession$Harbour" "sinsOf" "[I") (by decide +kernel)
  have k30 := hts (.fieldLink RX0 30 "AnchorsForConfession$Harbour" "aboard" "[I") (by decide +kernel)
  have k36 := hts (.fieldLink RX0 36 "AnchorsForConfession$Harbour" "ships" "I") (by decide +kernel)
  have k40 := hts (.fieldLink RX0 40 "AnchorsForConfession$Harbour" "men" "I") (by decide +kernel)
  have k46 := hts (.fieldLink RX0 46 "AnchorsForConfession$Harbour" "tide" "I") (by decide +kernel)
  have km91 := hts (.methodLink RX0 91 Lib.Math.min.name) (by decide +kernel)
  have ks91 := hts (.static Lib.Math.min.name) (by decide +kernel)
  have ki91 := hts (.initialized "java/lang/Math") (by decide +kernel)
  have kk91 := hts (.code Lib.Math.min.name Lib.Math.min.code 2 (some .int)) (by decide +kernel)
  replace hl : lv_has ls 2 [(0, .ref (A 0))] := hl
  refine lv_aload_n hx hb dX0_passTide_0 rfl (lv_at hl 0 rfl) ?_
  refine lv_dup hx hb dX0_passTide_1 rfl ?_
  refine va_get (D := D) (ci := 0) (v := .int (h 16 3)) (C := RX0) (T := TX0) (N := 12) hx hb hts hw0 hown hK hP 0 cH_at0 rfl 10 (by decide) k46 (fun _ h9 => h9) rfl dX0_passTide_2 ?_
  refine lv_iconst (v := 1) hx hb dX0_passTide_5 (by decide) ?_
  refine lv_iadd hx hb dX0_passTide_6 ?_
  refine va_put (D := D) (ci := 0) (v := .int ((h 16 3) + (1 : Int32))) (ty := .int) (C := RX0) (T := TX0) (N := 12) hx hb hts hw0 tyX0 tyX0_ok nmX0 hown hK hP hD hS 0 cH_at0 rfl 10 (by decide) k46 (fun _ h9 => h9) rfl (tyX0_ok 10 (by decide)) rfl rfl (Nat.le_of_ble_eq_true rfl) dX0_passTide_7 (fun H locs hP hD hS => ?_)
  obtain ⟨h_1, eh_1, hf⟩ := nq_e hf
  rw [cH_sc0_10, ← eh_1] at hP hD
  refine lv_iconst (v := 0) hx hb dX0_passTide_10 (by decide) ?_
  refine lv_istore_n (lv' := [(1, .int (0 : Int32)), (0, .ref (A 0))]) hx hb dX0_passTide_11 rfl hl (by decide) rfl (fun ls hl => ?_)
  refine lp_ind (P := fun (q12 : Int32 × St) => ∀ (H : Heap) (locs : List Loc) (ls : Array Slot), va_P D vwCl (cH cI A q12.2) H → va_D AA (cH cI A q12.2) → va_S AA s.heap H locs → lv_has ls 2 [(0, .ref (A 0)), (1, .int q12.1)] → W p l e rm_X0_passTide s m args below meth c H locs 0 0 Q (F0 m 12 ls [])) hf ?_ H locs ls hP hD hS (lv_sub hl [1, 0] rfl)
  clear hf hP hD hS hl
  intro nx12 ih12 q12 hf H locs ls hP hD hS hl
  refine lv_iload_n hx hb dX0_passTide_12 rfl (lv_at hl 1 rfl) ?_
  refine lv_aload_n hx hb dX0_passTide_13 rfl (lv_at hl 0 rfl) ?_
  refine va_get (D := D) (ci := 0) (v := .int (q12.2 16 1)) (C := RX0) (T := TX0) (N := 12) hx hb hts hw0 hown hK hP 0 cH_at0 rfl 4 (by decide) k40 (fun _ h9 => h9) rfl dX0_passTide_14 ?_
  refine lv_icmp_ge (tgt := 62) hx hb dX0_passTide_17 (by decide) (fun c_2 => ?_) (fun c_2 => ?_)
  · replace hf := if_t c_2 hf
    refine lv_iconst (v := 0) hx hb dX0_passTide_62 (by decide) ?_
    refine lv_istore_n (lv' := [(1, .int (0 : Int32)), (0, .ref (A 0))]) hx hb dX0_passTide_63 rfl hl (by decide) rfl (fun ls hl => ?_)
    refine lp_ind (P := fun (q64 : Int32 × St) => ∀ (H : Heap) (locs : List Loc) (ls : Array Slot), va_P D vwCl (cH cI A q64.2) H → va_D AA (cH cI A q64.2) → va_S AA s.heap H locs → lv_has ls 2 [(0, .ref (A 0)), (1, .int q64.1)] → W p l e rm_X0_passTide s m args below meth c H locs 0 0 Q (F0 m 64 ls [])) hf ?_ H locs ls hP hD hS (lv_sub hl [1, 0] rfl)
    clear hf hP hD hS hl
    intro nx64 ih64 q64 hf H locs ls hP hD hS hl
    refine lv_iload_n hx hb dX0_passTide_64 rfl (lv_at hl 1 rfl) ?_
    refine lv_aload_n hx hb dX0_passTide_65 rfl (lv_at hl 0 rfl) ?_
    refine va_get (D := D) (ci := 0) (v := .int (q64.2 16 0)) (C := RX0) (T := TX0) (N := 12) hx hb hts hw0 hown hK hP 0 cH_at0 rfl 0 (by decide) k36 (fun _ h9 => h9) rfl dX0_passTide_66 ?_
    refine lv_icmp_ge (tgt := 96) hx hb dX0_passTide_69 (by decide) (fun c_3 => ?_) (fun c_3 => ?_)
    · replace hf := if_t c_3 hf
      exact hend q64.2 H locs _ _ hf hP hS dX0_passTide_96
    · replace hf := if_f c_3 hf
      refine lv_aload_n hx hb dX0_passTide_72 rfl (lv_at hl 0 rfl) ?_
      refine lv_iload_n hx hb dX0_passTide_73 rfl (lv_at hl 1 rfl) ?_
      obtain ⟨a_4, ha_4, hf⟩ := bd_e hf
      refine Ct.callV (As := [.int q64.1]) (rest := []) (st1 := [.int a_4]) (c_X0_isIn l D cI A q64.2 q64.1 a_4 ha_4) hx hb hml hown hts (cwV 1 hts gX0_passTide_X0_isIn rfl rfl rfl hd_X0_isIn ⟨Nat.le_of_ble_eq_true rfl, Nat.le_of_ble_eq_true rfl⟩) (va_recv hK hP (ci := 0) (q0 := 0) rfl cH_at0) (Ln.id rfl) hA hK hP hD hS rfl hl.1 rfl rfl (Nat.le_of_ble_eq_true rfl) dX0_passTide_74 (fun H locs hP hD hS => ?_)
      refine lv_if_ne (tgt := 90) hx hb dX0_passTide_77 (by decide) (fun c_5 => ?_) (fun c_5 => ?_)
      · replace hf := if_f c_5 hf
        obtain ⟨v_6, ev_6, hf⟩ := nq_e hf
        refine lv_iinc (v := v_6) (lv' := [(1, .int v_6), (0, .ref (A 0))]) hx hb dX0_passTide_90 hl (k := 1) rfl (by rw [ev_6]; rfl) (by decide) rfl (fun ls hl => ?_)
        refine lv_goto (tgt := 64) hx hb dX0_passTide_93 (by decide) ?_
        exact ih64 (v_6, q64.2) hf H locs ls hP hD hS (lv_sub hl [1, 0] rfl)
      · replace hf := if_t c_5 hf
        refine lv_aload_n hx hb dX0_passTide_80 rfl (lv_at hl 0 rfl) ?_
        refine va_get (D := D) (ci := 0) (v := .ref (A 3)) (C := RX0) (T := TX0) (N := 12) hx hb hts hw0 hown hK hP 0 cH_at0 rfl 3 (by decide) k18 (fun _ h9 => h9) rfl dX0_passTide_81 ?_
        refine lv_iload_n hx hb dX0_passTide_84 rfl (lv_at hl 1 rfl) ?_
        refine lv_dup2_11 hx hb dX0_passTide_85 rfl rfl ?_
        obtain ⟨c_7, hf⟩ := gi_e hf
        refine va_iald hx hb hK hP 3 0 cH_at3 rfl c_7 dX0_passTide_86 ?_
        refine lv_iconst (v := 1) hx hb dX0_passTide_87 (by decide) ?_
        refine lv_isub hx hb dX0_passTide_88 ?_
        obtain ⟨c_8, hf⟩ := gi_e hf
        refine va_iast hx hb hK hP hD hS 3 0 cH_at3 rfl c_8 dX0_passTide_89 (fun H locs hP hD hS => ?_)
        obtain ⟨h_9, eh_9, hf⟩ := nq_e hf
        rw [cH_su3, ← eh_9] at hP hD
        obtain ⟨v_10, ev_10, hf⟩ := nq_e hf
        refine lv_iinc (v := v_10) (lv' := [(1, .int v_10), (0, .ref (A 0))]) hx hb dX0_passTide_90 hl (k := 1) rfl (by rw [ev_10]; rfl) (by decide) rfl (fun ls hl => ?_)
        refine lv_goto (tgt := 64) hx hb dX0_passTide_93 (by decide) ?_
        exact ih64 (v_10, h_9) hf H locs ls hP hD hS (lv_sub hl [1, 0] rfl)
  · replace hf := if_f c_2 hf
    refine lv_aload_n hx hb dX0_passTide_20 rfl (lv_at hl 0 rfl) ?_
    refine lv_aload_n hx hb dX0_passTide_21 rfl (lv_at hl 0 rfl) ?_
    refine va_get (D := D) (ci := 0) (v := .ref (A 7)) (C := RX0) (T := TX0) (N := 12) hx hb hts hw0 hown hK hP 0 cH_at0 rfl 8 (by decide) k30 (fun _ h9 => h9) rfl dX0_passTide_22 ?_
    refine lv_iload_n hx hb dX0_passTide_25 rfl (lv_at hl 1 rfl) ?_
    obtain ⟨c_11, hf⟩ := gi_e hf
    refine va_iald hx hb hK hP 7 0 cH_at7 rfl c_11 dX0_passTide_26 ?_
    obtain ⟨a_12, ha_12, hf⟩ := bd_e hf
    refine Ct.callV (As := [.int (q12.2 7 (q12.1).toNatClampNeg)]) (rest := []) (st1 := [.int a_12]) (c_X0_isIn l D cI A q12.2 (q12.2 7 (q12.1).toNatClampNeg) a_12 ha_12) hx hb hml hown hts (cwV 1 hts gX0_passTide_X0_isIn rfl rfl rfl hd_X0_isIn ⟨Nat.le_of_ble_eq_true rfl, Nat.le_of_ble_eq_true rfl⟩) (va_recv hK hP (ci := 0) (q0 := 0) rfl cH_at0) (Ln.id rfl) hA hK hP hD hS rfl hl.1 rfl rfl (Nat.le_of_ble_eq_true rfl) dX0_passTide_27 (fun H locs hP hD hS => ?_)
    refine lv_if_ne (tgt := 56) hx hb dX0_passTide_30 (by decide) (fun c_13 => ?_) (fun c_13 => ?_)
    · replace hf := if_f c_13 hf
      obtain ⟨v_14, ev_14, hf⟩ := nq_e hf
      refine lv_iinc (v := v_14) (lv' := [(1, .int v_14), (0, .ref (A 0))]) hx hb dX0_passTide_56 hl (k := 1) rfl (by rw [ev_14]; rfl) (by decide) rfl (fun ls hl => ?_)
      refine lv_goto (tgt := 12) hx hb dX0_passTide_59 (by decide) ?_
      exact ih12 (v_14, q12.2) hf H locs ls hP hD hS (lv_sub hl [1, 0] rfl)
    · replace hf := if_t c_13 hf
      refine lv_aload_n hx hb dX0_passTide_33 rfl (lv_at hl 0 rfl) ?_
      refine va_get (D := D) (ci := 0) (v := .ref (A 6)) (C := RX0) (T := TX0) (N := 12) hx hb hts hw0 hown hK hP 0 cH_at0 rfl 7 (by decide) k27 (fun _ h9 => h9) rfl dX0_passTide_34 ?_
      refine lv_iload_n hx hb dX0_passTide_37 rfl (lv_at hl 1 rfl) ?_
      refine lv_bipush (v := 9) hx hb dX0_passTide_38 (by decide +kernel) ?_
      refine lv_aload_n hx hb dX0_passTide_40 rfl (lv_at hl 0 rfl) ?_
      refine va_get (D := D) (ci := 0) (v := .ref (A 6)) (C := RX0) (T := TX0) (N := 12) hx hb hts hw0 hown hK hP 0 cH_at0 rfl 7 (by decide) k27 (fun _ h9 => h9) rfl dX0_passTide_41 ?_
      refine lv_iload_n hx hb dX0_passTide_44 rfl (lv_at hl 1 rfl) ?_
      obtain ⟨c_15, hf⟩ := gi_e hf
      refine va_iald hx hb hK hP 6 0 cH_at6 rfl c_15 dX0_passTide_45 ?_
      refine lv_aload_n hx hb dX0_passTide_46 rfl (lv_at hl 0 rfl) ?_
      refine lv_iload_n hx hb dX0_passTide_47 rfl (lv_at hl 1 rfl) ?_
      obtain ⟨a_16, ha_16, hf⟩ := bd_e hf
      refine Ct.callV (As := [.int q12.1]) (rest := [.int (q12.2 6 (q12.1).toNatClampNeg), .int (9 : Int32), .int q12.1, .ref (A 6)]) (st1 := [.int a_16, .int (q12.2 6 (q12.1).toNatClampNeg), .int (9 : Int32), .int q12.1, .ref (A 6)]) (c_X0_sinsMore l D cI A q12.2 q12.1 a_16 ha_16) hx hb hml hown hts (cwV 1 hts gX0_passTide_X0_sinsMore rfl rfl rfl hd_X0_sinsMore ⟨Nat.le_of_ble_eq_true rfl, Nat.le_of_ble_eq_true rfl⟩) (va_recv hK hP (ci := 0) (q0 := 0) rfl cH_at0) (Ln.id rfl) hA hK hP hD hS rfl hl.1 rfl rfl (Nat.le_of_ble_eq_true rfl) dX0_passTide_48 (fun H locs hP hD hS => ?_)
      refine lv_iadd hx hb dX0_passTide_51 ?_
      refine va_mmin hx hb (by rw [hml]; exact hl.1.symm) hown km91 ks91 ki91 kk91 (Nat.le_of_ble_eq_true rfl) (Nat.le_of_ble_eq_true rfl) (Nat.zero_le _) (Nat.zero_le _) dX0_passTide_52 ?_
      obtain ⟨c_17, hf⟩ := gi_e hf
      refine va_iast hx hb hK hP hD hS 6 0 cH_at6 rfl c_17 dX0_passTide_55 (fun H locs hP hD hS => ?_)
      obtain ⟨h_18, eh_18, hf⟩ := nq_e hf
      rw [cH_su6, ← eh_18] at hP hD
      obtain ⟨v_19, ev_19, hf⟩ := nq_e hf
      refine lv_iinc (v := v_19) (lv' := [(1, .int v_19), (0, .ref (A 0))]) hx hb dX0_passTide_56 hl (k := 1) rfl (by rw [ev_19]; rfl) (by decide) rfl (fun ls hl => ?_)
      refine lv_goto (tgt := 12) hx hb dX0_passTide_59 (by decide) ?_
      exact ih12 (v_19, h_18) hf H locs ls hP hD hS (lv_sub hl [1, 0] rfl)

def rm_X0_passTides : Room := { frames := 2, cells := 0, slots := 0, locals := 42 }
theorem hd_X0_passTides : yX0_passTides.cls = RX0 ∧ yX0_passTides.cls ≠ "java/lang/invoke/MethodHandle" ∧ yX0_passTides.cls ≠ "java/lang/invoke/VarHandle" ∧ (parseMethodDescriptor yX0_passTides.desc).map (fun d => d.parameters.length) = some 1 := by decide +kernel
set_option maxRecDepth 100000 in
set_option maxHeartbeats 4000000 in
theorem c_X0_passTides (l : Launch) (D : va_G) (cI : ClassId) (A : Nat → Nat) (h : St) (p1 : Int32) (r : St) (hf : f_X0_passTides h p1 = some r) : Ct l yX0_passTides wsX0_passTides rm_X0_passTides D cI (cH cI A h) (cH cI A r) [.ref (A 0), .int p1] none := by
  unfold f_X0_passTides at hf
  refine Ct.ofV (cc := cX0_passTides) (maxL := 3) (by decide +kernel) rfl (Nat.le_of_ble_eq_true rfl) ?_
  intro p e s m args below meth c AA Q H locs ls hx hb hml hown hts hA hK hP hD hS hl hend0
  have hend : ∀ (r1 : St) (H : Heap) (locs : List Loc) (pc : Nat) (ls : Array Slot), some r1 = some r → va_P D vwCl (cH cI A r1) H → va_S AA s.heap H locs → decode cX0_passTides pc = .ok (.return_, 1) → W p l e rm_X0_passTides s m args below meth c H locs 0 0 Q (F0 m pc ls []) := by
    intro r1 H locs pc ls e1 hP hS hd; cases e1; exact hend0 H locs pc ls hP hS hd
  clear hend0
  replace hl : lv_has ls 3 [(0, .ref (A 0)), (1, .int p1)] := hl
  refine lv_iconst (v := 0) hx hb dX0_passTides_0 (by decide) ?_
  refine lv_istore_n (lv' := [(2, .int (0 : Int32)), (0, .ref (A 0)), (1, .int p1)]) hx hb dX0_passTides_1 rfl hl (by decide) rfl (fun ls hl => ?_)
  refine lp_ind (P := fun (q2 : Int32 × St) => ∀ (H : Heap) (locs : List Loc) (ls : Array Slot), va_P D vwCl (cH cI A q2.2) H → va_D AA (cH cI A q2.2) → va_S AA s.heap H locs → lv_has ls 3 [(0, .ref (A 0)), (1, .int p1), (2, .int q2.1)] → W p l e rm_X0_passTides s m args below meth c H locs 0 0 Q (F0 m 2 ls [])) hf ?_ H locs ls hP hD hS (lv_sub hl [1, 2, 0] rfl)
  clear hf hP hD hS hl
  intro nx2 ih2 q2 hf H locs ls hP hD hS hl
  refine lv_iload_n hx hb dX0_passTides_2 rfl (lv_at hl 2 rfl) ?_
  refine lv_iload_n hx hb dX0_passTides_3 rfl (lv_at hl 1 rfl) ?_
  refine lv_icmp_ge (tgt := 17) hx hb dX0_passTides_4 (by decide) (fun c_1 => ?_) (fun c_1 => ?_)
  · replace hf := if_t c_1 hf
    exact hend q2.2 H locs _ _ hf hP hS dX0_passTides_17
  · replace hf := if_f c_1 hf
    refine lv_aload_n hx hb dX0_passTides_7 rfl (lv_at hl 0 rfl) ?_
    obtain ⟨a_2, ha_2, hf⟩ := bd_e hf
    refine Ct.callV (As := []) (rest := []) (st1 := []) (c_X0_passTide l D cI A q2.2 a_2 ha_2) hx hb hml hown hts (cwV 0 hts gX0_passTides_X0_passTide rfl rfl rfl hd_X0_passTide ⟨Nat.le_of_ble_eq_true rfl, Nat.le_of_ble_eq_true rfl⟩) (va_recv hK hP (ci := 0) (q0 := 0) rfl cH_at0) (Ln.id rfl) hA hK hP hD hS rfl hl.1 rfl rfl (Nat.le_of_ble_eq_true rfl) dX0_passTides_8 (fun H locs hP hD hS => ?_)
    replace hP : va_P D vwCl (cH cI A a_2) H := hP
    replace hD : va_D AA (cH cI A a_2) := hD
    obtain ⟨v_3, ev_3, hf⟩ := nq_e hf
    refine lv_iinc (v := v_3) (lv' := [(2, .int v_3), (0, .ref (A 0)), (1, .int p1)]) hx hb dX0_passTides_11 hl (k := 2) rfl (by rw [ev_3]; rfl) (by decide) rfl (fun ls hl => ?_)
    refine lv_goto (tgt := 2) hx hb dX0_passTides_14 (by decide) ?_
    exact ih2 (v_3, a_2) hf H locs ls hP hD hS (lv_sub hl [1, 2, 0] rfl)

def rm_X0_dearestLeft : Room := { frames := 2, cells := 0, slots := 0, locals := 44 }
theorem hd_X0_dearestLeft : yX0_dearestLeft.cls = RX0 ∧ yX0_dearestLeft.cls ≠ "java/lang/invoke/MethodHandle" ∧ yX0_dearestLeft.cls ≠ "java/lang/invoke/VarHandle" ∧ (parseMethodDescriptor yX0_dearestLeft.desc).map (fun d => d.parameters.length) = some 1 := by decide +kernel
set_option maxRecDepth 100000 in
set_option maxHeartbeats 4000000 in
theorem c_X0_dearestLeft (l : Launch) (D : va_G) (cI : ClassId) (A : Nat → Nat) (h : St) (p1 : Int32) (r : Int32) (hf : f_X0_dearestLeft h p1 = some r) : Ct l yX0_dearestLeft wsX0_dearestLeft rm_X0_dearestLeft D cI (cH cI A h) (cH cI A h) [.ref (A 0), .int p1] (some (.int r)) := by
  unfold f_X0_dearestLeft at hf
  refine Ct.ofI (cc := cX0_dearestLeft) (maxL := 5) (by decide +kernel) rfl (Nat.le_of_ble_eq_true rfl) ?_
  intro p e s m args below meth c AA Q H locs ls hx hb hml hown hts hA hK hP hD hS hl hend0
  have hend : ∀ (r1 : Int32) (H : Heap) (locs : List Loc) (pc : Nat) (ls : Array Slot), some r1 = some r → va_P D vwCl (cH cI A h) H → va_S AA s.heap H locs → decode cX0_dearestLeft pc = .ok (.ireturn, 1) → W p l e rm_X0_dearestLeft s m args below meth c H locs 0 0 Q (F0 m pc ls [.int r1]) := by
    intro r1 H locs pc ls e1 hP hS hd; cases e1; exact hend0 H locs pc ls hP hS hd
  clear hend0
  have hw0 : ∀ w ∈ wsX00, w ∈ wsX0_dearestLeft := by decide +kernel
  have k27 := hts (.fieldLink RX0 27 "AnchorsForConfession$Harbour" "sinsOf" "[I") (by decide +kernel)
  have k30 := hts (.fieldLink RX0 30 "AnchorsForConfession$Harbour" "aboard" "[I") (by decide +kernel)
  have k33 := hts (.fieldLink RX0 33 "AnchorsForConfession$Harbour" "asked" "[I") (by decide +kernel)
  have k40 := hts (.fieldLink RX0 40 "AnchorsForConfession$Harbour" "men" "I") (by decide +kernel)
  replace hl : lv_has ls 5 [(0, .ref (A 0)), (1, .int p1)] := hl
  refine lv_bipush (v := -9) hx hb dX0_dearestLeft_0 (by decide +kernel) ?_
  refine lv_istore_n (lv' := [(2, .int (-9 : Int32)), (0, .ref (A 0)), (1, .int p1)]) hx hb dX0_dearestLeft_2 rfl hl (by decide) rfl (fun ls hl => ?_)
  refine lv_iconst (v := 0) hx hb dX0_dearestLeft_3 (by decide) ?_
  refine lv_istore_n (lv' := [(3, .int (0 : Int32)), (2, .int (-9 : Int32)), (0, .ref (A 0)), (1, .int p1)]) hx hb dX0_dearestLeft_4 rfl hl (by decide) rfl (fun ls hl => ?_)
  refine lv_iconst (v := 0) hx hb dX0_dearestLeft_5 (by decide) ?_
  refine lv_istore (lv' := [(4, .int (0 : Int32)), (3, .int (0 : Int32)), (2, .int (-9 : Int32)), (0, .ref (A 0)), (1, .int p1)]) hx hb dX0_dearestLeft_6 hl (by decide) rfl (fun ls hl => ?_)
  refine lp_ind (P := fun (q8 : Int32 × Int32 × Int32) => ∀ (H : Heap) (locs : List Loc) (ls : Array Slot), va_P D vwCl (cH cI A h) H → va_D AA (cH cI A h) → va_S AA s.heap H locs → lv_has ls 5 [(0, .ref (A 0)), (1, .int p1), (2, .int q8.1), (3, .int q8.2.1), (4, .int q8.2.2)] → W p l e rm_X0_dearestLeft s m args below meth c H locs 0 0 Q (F0 m 8 ls [])) hf ?_ H locs ls hP hD hS (lv_sub hl [3, 4, 2, 1, 0] rfl)
  clear hf hP hD hS hl
  intro nx8 ih8 q8 hf H locs ls hP hD hS hl
  refine lv_iload hx hb dX0_dearestLeft_8 (lv_at hl 4 rfl) ?_
  refine lv_aload_n hx hb dX0_dearestLeft_10 rfl (lv_at hl 0 rfl) ?_
  refine va_get (D := D) (ci := 0) (v := .int (h 16 1)) (C := RX0) (T := TX0) (N := 12) hx hb hts hw0 hown hK hP 0 cH_at0 rfl 4 (by decide) k40 (fun _ h9 => h9) rfl dX0_dearestLeft_11 ?_
  refine lv_icmp_ge (tgt := 71) hx hb dX0_dearestLeft_14 (by decide) (fun c_1 => ?_) (fun c_1 => ?_)
  · replace hf := if_t c_1 hf
    refine lv_iload_n hx hb dX0_dearestLeft_71 rfl (lv_at hl 2 rfl) ?_
    exact hend q8.1 H locs _ _ hf hP hS dX0_dearestLeft_72
  · replace hf := if_f c_1 hf
    refine lv_aload_n hx hb dX0_dearestLeft_17 rfl (lv_at hl 0 rfl) ?_
    refine va_get (D := D) (ci := 0) (v := .ref (A 7)) (C := RX0) (T := TX0) (N := 12) hx hb hts hw0 hown hK hP 0 cH_at0 rfl 8 (by decide) k30 (fun _ h9 => h9) rfl dX0_dearestLeft_18 ?_
    refine lv_iload hx hb dX0_dearestLeft_21 (lv_at hl 4 rfl) ?_
    obtain ⟨c_2, hf⟩ := gi_e hf
    refine va_iald hx hb hK hP 7 0 cH_at7 rfl c_2 dX0_dearestLeft_23 ?_
    refine lv_iload_n hx hb dX0_dearestLeft_24 rfl (lv_at hl 1 rfl) ?_
    refine lv_icmp_ne (tgt := 65) hx hb dX0_dearestLeft_25 (by decide) (fun c_3 => ?_) (fun c_3 => ?_)
    · replace hf := if_f c_3 hf
      obtain ⟨v_4, ev_4, hf⟩ := nq_e hf
      refine lv_iinc (v := v_4) (lv' := [(4, .int v_4), (0, .ref (A 0)), (1, .int p1), (2, .int q8.1), (3, .int q8.2.1)]) hx hb dX0_dearestLeft_65 hl (k := 4) rfl (by rw [ev_4]; rfl) (by decide) rfl (fun ls hl => ?_)
      refine lv_goto (tgt := 8) hx hb dX0_dearestLeft_68 (by decide) ?_
      exact ih8 (q8.1, q8.2.1, v_4) hf H locs ls hP hD hS (lv_sub hl [1, 2, 3, 4, 0] rfl)
    · replace hf := if_t c_3 hf
      refine lv_aload_n hx hb dX0_dearestLeft_28 rfl (lv_at hl 0 rfl) ?_
      refine va_get (D := D) (ci := 0) (v := .ref (A 8)) (C := RX0) (T := TX0) (N := 12) hx hb hts hw0 hown hK hP 0 cH_at0 rfl 11 (by decide) k33 (fun _ h9 => h9) rfl dX0_dearestLeft_29 ?_
      refine lv_iload hx hb dX0_dearestLeft_32 (lv_at hl 4 rfl) ?_
      obtain ⟨c_5, hf⟩ := gi_e hf
      refine va_iald hx hb hK hP 8 0 cH_at8 rfl c_5 dX0_dearestLeft_34 ?_
      refine lv_aload_n hx hb dX0_dearestLeft_35 rfl (lv_at hl 0 rfl) ?_
      refine va_get (D := D) (ci := 0) (v := .ref (A 6)) (C := RX0) (T := TX0) (N := 12) hx hb hts hw0 hown hK hP 0 cH_at0 rfl 7 (by decide) k27 (fun _ h9 => h9) rfl dX0_dearestLeft_36 ?_
      refine lv_iload hx hb dX0_dearestLeft_39 (lv_at hl 4 rfl) ?_
      obtain ⟨c_6, hf⟩ := gi_e hf
      refine va_iald hx hb hK hP 6 0 cH_at6 rfl c_6 dX0_dearestLeft_41 ?_
      refine lv_icmp_ge (tgt := 65) hx hb dX0_dearestLeft_42 (by decide) (fun c_7 => ?_) (fun c_7 => ?_)
      · replace hf := if_t c_7 hf
        obtain ⟨v_8, ev_8, hf⟩ := nq_e hf
        refine lv_iinc (v := v_8) (lv' := [(4, .int v_8), (0, .ref (A 0)), (1, .int p1), (2, .int q8.1), (3, .int q8.2.1)]) hx hb dX0_dearestLeft_65 hl (k := 4) rfl (by rw [ev_8]; rfl) (by decide) rfl (fun ls hl => ?_)
        refine lv_goto (tgt := 8) hx hb dX0_dearestLeft_68 (by decide) ?_
        exact ih8 (q8.1, q8.2.1, v_8) hf H locs ls hP hD hS (lv_sub hl [1, 2, 3, 4, 0] rfl)
      · replace hf := if_f c_7 hf
        refine lv_aload_n hx hb dX0_dearestLeft_45 rfl (lv_at hl 0 rfl) ?_
        refine lv_iload hx hb dX0_dearestLeft_46 (lv_at hl 4 rfl) ?_
        obtain ⟨a_9, ha_9, hf⟩ := bd_e hf
        refine Ct.callV (As := [.int q8.2.2]) (rest := []) (st1 := [.int a_9]) (c_X0_worth l D cI A h q8.2.2 a_9 ha_9) hx hb hml hown hts (cwV 1 hts gX0_dearestLeft_X0_worth rfl rfl rfl hd_X0_worth ⟨Nat.le_of_ble_eq_true rfl, Nat.le_of_ble_eq_true rfl⟩) (va_recv hK hP (ci := 0) (q0 := 0) rfl cH_at0) (Ln.id rfl) hA hK hP hD hS rfl hl.1 rfl rfl (Nat.le_of_ble_eq_true rfl) dX0_dearestLeft_48 (fun H locs hP hD hS => ?_)
        refine lv_iload_n hx hb dX0_dearestLeft_51 rfl (lv_at hl 3 rfl) ?_
        refine lv_icmp_le (tgt := 65) hx hb dX0_dearestLeft_52 (by decide) (fun c_10 => ?_) (fun c_10 => ?_)
        · replace hf := if_t c_10 hf
          obtain ⟨v_11, ev_11, hf⟩ := nq_e hf
          refine lv_iinc (v := v_11) (lv' := [(4, .int v_11), (0, .ref (A 0)), (1, .int p1), (2, .int q8.1), (3, .int q8.2.1)]) hx hb dX0_dearestLeft_65 hl (k := 4) rfl (by rw [ev_11]; rfl) (by decide) rfl (fun ls hl => ?_)
          refine lv_goto (tgt := 8) hx hb dX0_dearestLeft_68 (by decide) ?_
          exact ih8 (q8.1, q8.2.1, v_11) hf H locs ls hP hD hS (lv_sub hl [1, 2, 3, 4, 0] rfl)
        · replace hf := if_f c_10 hf
          refine lv_aload_n hx hb dX0_dearestLeft_55 rfl (lv_at hl 0 rfl) ?_
          refine lv_iload hx hb dX0_dearestLeft_56 (lv_at hl 4 rfl) ?_
          obtain ⟨a_12, ha_12, hf⟩ := bd_e hf
          refine Ct.callV (As := [.int q8.2.2]) (rest := []) (st1 := [.int a_12]) (c_X0_worth l D cI A h q8.2.2 a_12 ha_12) hx hb hml hown hts (cwV 1 hts gX0_dearestLeft_X0_worth rfl rfl rfl hd_X0_worth ⟨Nat.le_of_ble_eq_true rfl, Nat.le_of_ble_eq_true rfl⟩) (va_recv hK hP (ci := 0) (q0 := 0) rfl cH_at0) (Ln.id rfl) hA hK hP hD hS rfl hl.1 rfl rfl (Nat.le_of_ble_eq_true rfl) dX0_dearestLeft_58 (fun H locs hP hD hS => ?_)
          refine lv_istore_n (lv' := [(3, .int a_12), (0, .ref (A 0)), (1, .int p1), (2, .int q8.1), (4, .int q8.2.2)]) hx hb dX0_dearestLeft_61 rfl hl (by decide) rfl (fun ls hl => ?_)
          refine lv_iload hx hb dX0_dearestLeft_62 (lv_at hl 4 rfl) ?_
          refine lv_istore_n (lv' := [(2, .int q8.2.2), (3, .int a_12), (0, .ref (A 0)), (1, .int p1), (4, .int q8.2.2)]) hx hb dX0_dearestLeft_64 rfl hl (by decide) rfl (fun ls hl => ?_)
          obtain ⟨v_13, ev_13, hf⟩ := nq_e hf
          refine lv_iinc (v := v_13) (lv' := [(4, .int v_13), (2, .int q8.2.2), (3, .int a_12), (0, .ref (A 0)), (1, .int p1)]) hx hb dX0_dearestLeft_65 hl (k := 4) rfl (by rw [ev_13]; rfl) (by decide) rfl (fun ls hl => ?_)
          refine lv_goto (tgt := 8) hx hb dX0_dearestLeft_68 (by decide) ?_
          exact ih8 (q8.2.2, a_12, v_13) hf H locs ls hP hD hS (lv_sub hl [3, 4, 1, 2, 0] rfl)

def rm_X0_fewestWords : Room := { frames := 3, cells := 0, slots := 0, locals := 68 }
theorem hd_X0_fewestWords : yX0_fewestWords.cls = RX0 ∧ yX0_fewestWords.cls ≠ "java/lang/invoke/MethodHandle" ∧ yX0_fewestWords.cls ≠ "java/lang/invoke/VarHandle" ∧ (parseMethodDescriptor yX0_fewestWords.desc).map (fun d => d.parameters.length) = some 1 := by decide +kernel
set_option maxRecDepth 100000 in
set_option maxHeartbeats 4000000 in
theorem c_X0_fewestWords (l : Launch) (D : va_G) (cI : ClassId) (A : Nat → Nat) (h : St) (p1 : Int32) (r : Int32 × St) (hf : f_X0_fewestWords h p1 = some r) : Ct l yX0_fewestWords wsX0_fewestWords rm_X0_fewestWords D cI (cH cI A h) (cH cI A r.2) [.ref (A 0), .int p1] (some (.int r.1)) := by
  unfold f_X0_fewestWords at hf
  refine Ct.ofI (cc := cX0_fewestWords) (maxL := 6) (by decide +kernel) rfl (Nat.le_of_ble_eq_true rfl) ?_
  intro p e s m args below meth c AA Q H locs ls hx hb hml hown hts hA hK hP hD hS hl hend0
  have hend : ∀ (r1 : Int32 × St) (H : Heap) (locs : List Loc) (pc : Nat) (ls : Array Slot), some r1 = some r → va_P D vwCl (cH cI A r1.2) H → va_S AA s.heap H locs → decode cX0_fewestWords pc = .ok (.ireturn, 1) → W p l e rm_X0_fewestWords s m args below meth c H locs 0 0 Q (F0 m pc ls [.int r1.1]) := by
    intro r1 H locs pc ls e1 hP hS hd; cases e1; exact hend0 H locs pc ls hP hS hd
  clear hend0
  have hw0 : ∀ w ∈ wsX00, w ∈ wsX0_fewestWords := by decide +kernel
  have k33 := hts (.fieldLink RX0 33 "AnchorsForConfession$Harbour" "asked" "[I") (by decide +kernel)
  replace hl : lv_has ls 6 [(0, .ref (A 0)), (1, .int p1)] := hl
  refine lv_iconst (v := 0) hx hb dX0_fewestWords_0 (by decide) ?_
  refine lv_istore_n (lv' := [(2, .int (0 : Int32)), (0, .ref (A 0)), (1, .int p1)]) hx hb dX0_fewestWords_1 rfl hl (by decide) rfl (fun ls hl => ?_)
  refine lp_ind (P := fun (q2 : Int32 × St) => ∀ (H : Heap) (locs : List Loc) (ls : Array Slot), va_P D vwCl (cH cI A q2.2) H → va_D AA (cH cI A q2.2) → va_S AA s.heap H locs → lv_has ls 6 [(0, .ref (A 0)), (1, .int p1), (2, .int q2.1)] → W p l e rm_X0_fewestWords s m args below meth c H locs 0 0 Q (F0 m 2 ls [])) hf ?_ H locs ls hP hD hS (lv_sub hl [1, 2, 0] rfl)
  clear hf hP hD hS hl
  intro nx2 ih2 q2 hf H locs ls hP hD hS hl
  refine lv_iload_n hx hb dX0_fewestWords_2 rfl (lv_at hl 2 rfl) ?_
  refine lv_bipush (v := 8) hx hb dX0_fewestWords_3 (by decide +kernel) ?_
  refine lv_icmp_ge (tgt := 21) hx hb dX0_fewestWords_5 (by decide) (fun c_1 => ?_) (fun c_1 => ?_)
  · replace hf := if_t c_1 hf
    refine lv_iconst (v := 0) hx hb dX0_fewestWords_21 (by decide) ?_
    refine lv_istore_n (lv' := [(2, .int (0 : Int32)), (0, .ref (A 0)), (1, .int p1)]) hx hb dX0_fewestWords_22 rfl hl (by decide) rfl (fun ls hl => ?_)
    refine lv_aload_n hx hb dX0_fewestWords_23 rfl (lv_at hl 1 rfl) ?_
    refine lv_iload_n hx hb dX0_fewestWords_24 rfl (lv_at hl 2 rfl) ?_
    obtain ⟨a_2, ha_2, hf⟩ := bd_e hf
    refine Ct.callV (As := [.int p1]) (rest := []) (st1 := [.int a_2]) (c_X0_lacks l D cI A q2.2 p1 a_2 ha_2) hx hb hml hown hts (cwV 1 hts gX0_fewestWords_X0_lacks rfl rfl rfl hd_X0_lacks ⟨Nat.le_of_ble_eq_true rfl, Nat.le_of_ble_eq_true rfl⟩) (va_recv hK hP (ci := 0) (q0 := 0) rfl cH_at0) (Ln.id rfl) hA hK hP hD hS rfl hl.1 rfl rfl (Nat.le_of_ble_eq_true rfl) dX0_fewestWords_25 (fun H locs hP hD hS => ?_)
    refine lv_istore_n (lv' := [(3, .int a_2), (2, .int (0 : Int32)), (0, .ref (A 0)), (1, .int p1)]) hx hb dX0_fewestWords_28 rfl hl (by decide) rfl (fun ls hl => ?_)
    refine lv_iconst (v := 0) hx hb dX0_fewestWords_29 (by decide) ?_
    refine lv_istore (lv' := [(4, .int (0 : Int32)), (3, .int a_2), (2, .int (0 : Int32)), (0, .ref (A 0)), (1, .int p1)]) hx hb dX0_fewestWords_30 hl (by decide) rfl (fun ls hl => ?_)
    refine lp_ind (P := fun (q32 : Int32 × Int32 × Int32 × St) => ∀ (H : Heap) (locs : List Loc) (ls : Array Slot), va_P D vwCl (cH cI A q32.2.2.2) H → va_D AA (cH cI A q32.2.2.2) → va_S AA s.heap H locs → lv_has ls 6 [(0, .ref (A 0)), (1, .int p1), (2, .int q32.1), (3, .int q32.2.1), (4, .int q32.2.2.1)] → W p l e rm_X0_fewestWords s m args below meth c H locs 0 0 Q (F0 m 32 ls [])) hf ?_ H locs ls hP hD hS (lv_sub hl [3, 4, 2, 1, 0] rfl)
    clear hf hP hD hS hl
    intro nx32 ih32 q32 hf H locs ls hP hD hS hl
    refine lv_iload hx hb dX0_fewestWords_32 (lv_at hl 4 rfl) ?_
    refine lv_bipush (v := 72) hx hb dX0_fewestWords_34 (by decide +kernel) ?_
    refine lv_icmp_ge (tgt := 89) hx hb dX0_fewestWords_36 (by decide) (fun c_3 => ?_) (fun c_3 => ?_)
    · replace hf := if_t c_3 hf
      refine lv_iload_n hx hb dX0_fewestWords_89 rfl (lv_at hl 3 rfl) ?_
      refine lv_if_le (tgt := 98) hx hb dX0_fewestWords_90 (by decide) (fun c_4 => ?_) (fun c_4 => ?_)
      · replace hf := if_t c_4 hf
        refine lv_iload_n hx hb dX0_fewestWords_98 rfl (lv_at hl 2 rfl) ?_
        exact hend (q32.1, q32.2.2.2) H locs _ _ hf hP hS dX0_fewestWords_99
      · replace hf := if_f c_4 hf
        refine lv_bipush (v := -9) hx hb dX0_fewestWords_93 (by decide +kernel) ?_
        refine lv_goto (tgt := 99) hx hb dX0_fewestWords_95 (by decide) ?_
        exact hend ((-9 : Int32), q32.2.2.2) H locs _ _ hf hP hS dX0_fewestWords_99
    · replace hf := if_f c_3 hf
      refine lv_iload_n hx hb dX0_fewestWords_39 rfl (lv_at hl 3 rfl) ?_
      refine lv_if_le (tgt := 89) hx hb dX0_fewestWords_40 (by decide) (fun c_5 => ?_) (fun c_5 => ?_)
      · replace hf := if_t c_5 hf
        refine lv_iload_n hx hb dX0_fewestWords_89 rfl (lv_at hl 3 rfl) ?_
        refine lv_if_le (tgt := 98) hx hb dX0_fewestWords_90 (by decide) (fun c_6 => ?_) (fun c_6 => ?_)
        · replace hf := if_t c_6 hf
          refine lv_iload_n hx hb dX0_fewestWords_98 rfl (lv_at hl 2 rfl) ?_
          exact hend (q32.1, q32.2.2.2) H locs _ _ hf hP hS dX0_fewestWords_99
        · replace hf := if_f c_6 hf
          refine lv_bipush (v := -9) hx hb dX0_fewestWords_93 (by decide +kernel) ?_
          refine lv_goto (tgt := 99) hx hb dX0_fewestWords_95 (by decide) ?_
          exact hend ((-9 : Int32), q32.2.2.2) H locs _ _ hf hP hS dX0_fewestWords_99
      · replace hf := if_f c_5 hf
        refine lv_aload_n hx hb dX0_fewestWords_43 rfl (lv_at hl 0 rfl) ?_
        refine lv_iload_n hx hb dX0_fewestWords_44 rfl (lv_at hl 1 rfl) ?_
        obtain ⟨a_7, ha_7, hf⟩ := bd_e hf
        refine Ct.callV (As := [.int p1]) (rest := []) (st1 := [.int a_7]) (c_X0_dearestLeft l D cI A q32.2.2.2 p1 a_7 ha_7) hx hb hml hown hts (cwV 1 hts gX0_fewestWords_X0_dearestLeft rfl rfl rfl hd_X0_dearestLeft ⟨Nat.le_of_ble_eq_true rfl, Nat.le_of_ble_eq_true rfl⟩) (va_recv hK hP (ci := 0) (q0 := 0) rfl cH_at0) (Ln.id rfl) hA hK hP hD hS rfl hl.1 rfl rfl (Nat.le_of_ble_eq_true rfl) dX0_fewestWords_45 (fun H locs hP hD hS => ?_)
        refine lv_istore (lv' := [(5, .int a_7), (0, .ref (A 0)), (1, .int p1), (2, .int q32.1), (3, .int q32.2.1), (4, .int q32.2.2.1)]) hx hb dX0_fewestWords_48 hl (by decide) rfl (fun ls hl => ?_)
        refine lv_iload hx hb dX0_fewestWords_50 (lv_at hl 0 rfl) ?_
        refine lv_bipush (v := -9) hx hb dX0_fewestWords_52 (by decide +kernel) ?_
        refine lv_icmp_ne (tgt := 60) hx hb dX0_fewestWords_54 (by decide) (fun c_8 => ?_) (fun c_8 => ?_)
        · replace hf := if_f c_8 hf
          refine lv_aload_n hx hb dX0_fewestWords_60 rfl (lv_at hl 1 rfl) ?_
          refine va_get (D := D) (ci := 0) (v := .ref (A 8)) (C := RX0) (T := TX0) (N := 12) hx hb hts hw0 hown hK hP 0 cH_at0 rfl 11 (by decide) k33 (fun _ h9 => h9) rfl dX0_fewestWords_61 ?_
          refine lv_iload hx hb dX0_fewestWords_64 (lv_at hl 0 rfl) ?_
          refine lv_dup2_11 hx hb dX0_fewestWords_66 rfl rfl ?_
          obtain ⟨c_9, hf⟩ := gi_e hf
          refine va_iald hx hb hK hP 8 0 cH_at8 rfl c_9 dX0_fewestWords_67 ?_
          refine lv_iconst (v := 1) hx hb dX0_fewestWords_68 (by decide) ?_
          refine lv_iadd hx hb dX0_fewestWords_69 ?_
          obtain ⟨c_10, hf⟩ := gi_e hf
          refine va_iast hx hb hK hP hD hS 8 0 cH_at8 rfl c_10 dX0_fewestWords_70 (fun H locs hP hD hS => ?_)
          obtain ⟨h_11, eh_11, hf⟩ := nq_e hf
          rw [cH_su8, ← eh_11] at hP hD
          refine lv_iload_n hx hb dX0_fewestWords_71 rfl (lv_at hl 4 rfl) ?_
          refine lv_aload_n hx hb dX0_fewestWords_72 rfl (lv_at hl 1 rfl) ?_
          refine lv_iload hx hb dX0_fewestWords_73 (lv_at hl 0 rfl) ?_
          obtain ⟨a_12, ha_12, hf⟩ := bd_e hf
          refine Ct.callV (As := [.int a_7]) (rest := [.int q32.2.1]) (st1 := [.int a_12, .int q32.2.1]) (c_X0_worth l D cI A h_11 a_7 a_12 ha_12) hx hb hml hown hts (cwV 1 hts gX0_fewestWords_X0_worth rfl rfl rfl hd_X0_worth ⟨Nat.le_of_ble_eq_true rfl, Nat.le_of_ble_eq_true rfl⟩) (va_recv hK hP (ci := 0) (q0 := 0) rfl cH_at0) (Ln.id rfl) hA hK hP hD hS rfl hl.1 rfl rfl (Nat.le_of_ble_eq_true rfl) dX0_fewestWords_75 (fun H locs hP hD hS => ?_)
          refine lv_isub hx hb dX0_fewestWords_78 ?_
          refine lv_topi (fun v_13 ev_13 => ?_)
          replace hf := nm_at ev_13 hf
          refine lv_istore_n (lv' := [(3, .int v_13), (5, .int a_7), (0, .ref (A 0)), (1, .int p1), (2, .int q32.1), (4, .int q32.2.2.1)]) hx hb dX0_fewestWords_79 rfl hl (by decide) rfl (fun ls hl => ?_)
          obtain ⟨v_14, ev_14, hf⟩ := nq_e hf
          refine lv_iinc (v := v_14) (lv' := [(2, .int v_14), (3, .int v_13), (5, .int a_7), (0, .ref (A 0)), (1, .int p1), (4, .int q32.2.2.1)]) hx hb dX0_fewestWords_80 hl (k := 4) rfl (by rw [ev_14]; rfl) (by decide) rfl (fun ls hl => ?_)
          obtain ⟨v_15, ev_15, hf⟩ := nq_e hf
          refine lv_iinc (v := v_15) (lv' := [(4, .int v_15), (2, .int v_14), (3, .int v_13), (5, .int a_7), (0, .ref (A 0)), (1, .int p1)]) hx hb dX0_fewestWords_83 hl (k := 5) rfl (by rw [ev_15]; rfl) (by decide) rfl (fun ls hl => ?_)
          refine lv_goto (tgt := 32) hx hb dX0_fewestWords_86 (by decide) ?_
          exact ih32 (v_14, v_13, v_15, h_11) hf H locs ls hP hD hS (lv_sub hl [4, 5, 1, 2, 0] rfl)
        · replace hf := if_t c_8 hf
          refine lv_bipush (v := -9) hx hb dX0_fewestWords_57 (by decide +kernel) ?_
          exact hend ((-9 : Int32), q32.2.2.2) H locs _ _ hf hP hS dX0_fewestWords_59
  · replace hf := if_f c_1 hf
    refine lv_aload_n hx hb dX0_fewestWords_8 rfl (lv_at hl 0 rfl) ?_
    refine va_get (D := D) (ci := 0) (v := .ref (A 8)) (C := RX0) (T := TX0) (N := 12) hx hb hts hw0 hown hK hP 0 cH_at0 rfl 11 (by decide) k33 (fun _ h9 => h9) rfl dX0_fewestWords_9 ?_
    refine lv_iload_n hx hb dX0_fewestWords_12 rfl (lv_at hl 2 rfl) ?_
    refine lv_iconst (v := 0) hx hb dX0_fewestWords_13 (by decide) ?_
    obtain ⟨c_16, hf⟩ := gi_e hf
    refine va_iast hx hb hK hP hD hS 8 0 cH_at8 rfl c_16 dX0_fewestWords_14 (fun H locs hP hD hS => ?_)
    obtain ⟨h_17, eh_17, hf⟩ := nq_e hf
    rw [cH_su8, ← eh_17] at hP hD
    obtain ⟨v_18, ev_18, hf⟩ := nq_e hf
    refine lv_iinc (v := v_18) (lv' := [(2, .int v_18), (0, .ref (A 0)), (1, .int p1)]) hx hb dX0_fewestWords_15 hl (k := 2) rfl (by rw [ev_18]; rfl) (by decide) rfl (fun ls hl => ?_)
    refine lv_goto (tgt := 2) hx hb dX0_fewestWords_18 (by decide) ?_
    exact ih2 (v_18, h_17) hf H locs ls hP hD hS (lv_sub hl [1, 2, 0] rfl)

def rm_X0_mostAsked : Room := { frames := 0, cells := 0, slots := 0, locals := 0 }
theorem hd_X0_mostAsked : yX0_mostAsked.cls = RX0 ∧ yX0_mostAsked.cls ≠ "java/lang/invoke/MethodHandle" ∧ yX0_mostAsked.cls ≠ "java/lang/invoke/VarHandle" ∧ (parseMethodDescriptor yX0_mostAsked.desc).map (fun d => d.parameters.length) = some 0 := by decide +kernel
set_option maxRecDepth 100000 in
set_option maxHeartbeats 4000000 in
theorem c_X0_mostAsked (l : Launch) (D : va_G) (cI : ClassId) (A : Nat → Nat) (h : St) (r : Int32) (hf : f_X0_mostAsked h = some r) : Ct l yX0_mostAsked wsX0_mostAsked rm_X0_mostAsked D cI (cH cI A h) (cH cI A h) [.ref (A 0)] (some (.int r)) := by
  unfold f_X0_mostAsked at hf
  refine Ct.ofI (cc := cX0_mostAsked) (maxL := 4) (by decide +kernel) rfl (Nat.le_of_ble_eq_true rfl) ?_
  intro p e s m args below meth c AA Q H locs ls hx hb hml hown hts hA hK hP hD hS hl hend0
  have hend : ∀ (r1 : Int32) (H : Heap) (locs : List Loc) (pc : Nat) (ls : Array Slot), some r1 = some r → va_P D vwCl (cH cI A h) H → va_S AA s.heap H locs → decode cX0_mostAsked pc = .ok (.ireturn, 1) → W p l e rm_X0_mostAsked s m args below meth c H locs 0 0 Q (F0 m pc ls [.int r1]) := by
    intro r1 H locs pc ls e1 hP hS hd; cases e1; exact hend0 H locs pc ls hP hS hd
  clear hend0
  have hw0 : ∀ w ∈ wsX00, w ∈ wsX0_mostAsked := by decide +kernel
  have k33 := hts (.fieldLink RX0 33 "AnchorsForConfession$Harbour" "asked" "[I") (by decide +kernel)
  have k40 := hts (.fieldLink RX0 40 "AnchorsForConfession$Harbour" "men" "I") (by decide +kernel)
  replace hl : lv_has ls 4 [(0, .ref (A 0))] := hl
  refine lv_bipush (v := -9) hx hb dX0_mostAsked_0 (by decide +kernel) ?_
  refine lv_istore_n (lv' := [(1, .int (-9 : Int32)), (0, .ref (A 0))]) hx hb dX0_mostAsked_2 rfl hl (by decide) rfl (fun ls hl => ?_)
  refine lv_iconst (v := 0) hx hb dX0_mostAsked_3 (by decide) ?_
  refine lv_istore_n (lv' := [(2, .int (0 : Int32)), (1, .int (-9 : Int32)), (0, .ref (A 0))]) hx hb dX0_mostAsked_4 rfl hl (by decide) rfl (fun ls hl => ?_)
  refine lv_iconst (v := 0) hx hb dX0_mostAsked_5 (by decide) ?_
  refine lv_istore_n (lv' := [(3, .int (0 : Int32)), (2, .int (0 : Int32)), (1, .int (-9 : Int32)), (0, .ref (A 0))]) hx hb dX0_mostAsked_6 rfl hl (by decide) rfl (fun ls hl => ?_)
  refine lp_ind (P := fun (q7 : Int32 × Int32 × Int32) => ∀ (H : Heap) (locs : List Loc) (ls : Array Slot), va_P D vwCl (cH cI A h) H → va_D AA (cH cI A h) → va_S AA s.heap H locs → lv_has ls 4 [(0, .ref (A 0)), (1, .int q7.1), (2, .int q7.2.1), (3, .int q7.2.2)] → W p l e rm_X0_mostAsked s m args below meth c H locs 0 0 Q (F0 m 7 ls [])) hf ?_ H locs ls hP hD hS (lv_sub hl [3, 2, 1, 0] rfl)
  clear hf hP hD hS hl
  intro nx7 ih7 q7 hf H locs ls hP hD hS hl
  refine lv_iload_n hx hb dX0_mostAsked_7 rfl (lv_at hl 3 rfl) ?_
  refine lv_aload_n hx hb dX0_mostAsked_8 rfl (lv_at hl 0 rfl) ?_
  refine va_get (D := D) (ci := 0) (v := .int (h 16 1)) (C := RX0) (T := TX0) (N := 12) hx hb hts hw0 hown hK hP 0 cH_at0 rfl 4 (by decide) k40 (fun _ h9 => h9) rfl dX0_mostAsked_9 ?_
  refine lv_icmp_ge (tgt := 40) hx hb dX0_mostAsked_12 (by decide) (fun c_1 => ?_) (fun c_1 => ?_)
  · replace hf := if_t c_1 hf
    refine lv_iload_n hx hb dX0_mostAsked_40 rfl (lv_at hl 1 rfl) ?_
    exact hend q7.1 H locs _ _ hf hP hS dX0_mostAsked_41
  · replace hf := if_f c_1 hf
    refine lv_aload_n hx hb dX0_mostAsked_15 rfl (lv_at hl 0 rfl) ?_
    refine va_get (D := D) (ci := 0) (v := .ref (A 8)) (C := RX0) (T := TX0) (N := 12) hx hb hts hw0 hown hK hP 0 cH_at0 rfl 11 (by decide) k33 (fun _ h9 => h9) rfl dX0_mostAsked_16 ?_
    refine lv_iload_n hx hb dX0_mostAsked_19 rfl (lv_at hl 3 rfl) ?_
    obtain ⟨c_2, hf⟩ := gi_e hf
    refine va_iald hx hb hK hP 8 0 cH_at8 rfl c_2 dX0_mostAsked_20 ?_
    refine lv_iload_n hx hb dX0_mostAsked_21 rfl (lv_at hl 2 rfl) ?_
    refine lv_icmp_le (tgt := 34) hx hb dX0_mostAsked_22 (by decide) (fun c_3 => ?_) (fun c_3 => ?_)
    · replace hf := if_t c_3 hf
      obtain ⟨v_4, ev_4, hf⟩ := nq_e hf
      refine lv_iinc (v := v_4) (lv' := [(3, .int v_4), (0, .ref (A 0)), (1, .int q7.1), (2, .int q7.2.1)]) hx hb dX0_mostAsked_34 hl (k := 3) rfl (by rw [ev_4]; rfl) (by decide) rfl (fun ls hl => ?_)
      refine lv_goto (tgt := 7) hx hb dX0_mostAsked_37 (by decide) ?_
      exact ih7 (q7.1, q7.2.1, v_4) hf H locs ls hP hD hS (lv_sub hl [1, 2, 3, 0] rfl)
    · replace hf := if_f c_3 hf
      refine lv_aload_n hx hb dX0_mostAsked_25 rfl (lv_at hl 0 rfl) ?_
      refine va_get (D := D) (ci := 0) (v := .ref (A 8)) (C := RX0) (T := TX0) (N := 12) hx hb hts hw0 hown hK hP 0 cH_at0 rfl 11 (by decide) k33 (fun _ h9 => h9) rfl dX0_mostAsked_26 ?_
      refine lv_iload_n hx hb dX0_mostAsked_29 rfl (lv_at hl 3 rfl) ?_
      obtain ⟨c_5, hf⟩ := gi_e hf
      refine va_iald hx hb hK hP 8 0 cH_at8 rfl c_5 dX0_mostAsked_30 ?_
      refine lv_topi (fun v_6 ev_6 => ?_)
      replace hf := nm_at ev_6 hf
      refine lv_istore_n (lv' := [(2, .int v_6), (0, .ref (A 0)), (1, .int q7.1), (3, .int q7.2.2)]) hx hb dX0_mostAsked_31 rfl hl (by decide) rfl (fun ls hl => ?_)
      refine lv_iload_n hx hb dX0_mostAsked_32 rfl (lv_at hl 3 rfl) ?_
      refine lv_istore_n (lv' := [(1, .int q7.2.2), (2, .int v_6), (0, .ref (A 0)), (3, .int q7.2.2)]) hx hb dX0_mostAsked_33 rfl hl (by decide) rfl (fun ls hl => ?_)
      obtain ⟨v_7, ev_7, hf⟩ := nq_e hf
      refine lv_iinc (v := v_7) (lv' := [(3, .int v_7), (1, .int q7.2.2), (2, .int v_6), (0, .ref (A 0))]) hx hb dX0_mostAsked_34 hl (k := 3) rfl (by rw [ev_7]; rfl) (by decide) rfl (fun ls hl => ?_)
      refine lv_goto (tgt := 7) hx hb dX0_mostAsked_37 (by decide) ?_
      exact ih7 (q7.2.2, v_6, v_7) hf H locs ls hP hD hS (lv_sub hl [3, 1, 2, 0] rfl)
