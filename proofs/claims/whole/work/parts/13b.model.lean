def rm_X5_passes_a2 : Room := { frames := 0, cells := 0, slots := 0, locals := 0 }
theorem hd_X5_passes : yX5_passes.cls = RX5 ∧ yX5_passes.cls ≠ "java/lang/invoke/MethodHandle" ∧ yX5_passes.cls ≠ "java/lang/invoke/VarHandle" ∧ (parseMethodDescriptor yX5_passes.desc).map (fun d => d.parameters.length) = some 1 := by decide +kernel
set_option maxRecDepth 100000 in
set_option maxHeartbeats 4000000 in
theorem c_X5_passes_a2 (l : Launch) (D : va_G) (cI : ClassId) (A : Nat → Nat) (M : St) (r : St) (hf : f_X5_passes_a2 M = some r) : Ct l yX5_passes wsX5_passes rm_X5_passes_a2 D cI (cM cI A M) (cM cI A r) [.ref (A 0), .ref (A 2)] none := by
  unfold f_X5_passes_a2 at hf
  refine Ct.ofV (cc := cX5_passes) (maxL := 3) (by decide +kernel) rfl (Nat.le_of_ble_eq_true rfl) ?_
  intro p e s m args below meth c AA Q H locs ls hx hb hml hown hts hA hK hP hD hS hl hend0
  have hend : ∀ (r1 : St) (H : Heap) (locs : List Loc) (pc : Nat) (ls : Array Slot), some r1 = some r → va_P D vwCl (cM cI A r1) H → va_S AA s.heap H locs → decode cX5_passes pc = .ok (.return_, 1) → W p l e rm_X5_passes_a2 s m args below meth c H locs 0 0 Q (F0 m pc ls []) := by
    intro r1 H locs pc ls e1 hP hS hd; cases e1; exact hend0 H locs pc ls hP hS hd
  clear hend0
  have hw5 : ∀ w ∈ wsX50, w ∈ wsX5_passes := by decide +kernel
  have k46 := hts (.fieldLink RX5 46 "AnchorsForConfessionModel" "kept" "[I") (by decide +kernel)
  have k146 := hts (.fieldLink RX5 146 "AnchorsForConfessionModel" "isKeeping" "Z") (by decide +kernel)
  have k150 := hts (.fieldLink RX5 150 "AnchorsForConfessionModel" "cursor" "I") (by decide +kernel)
  replace hl : lv_has ls 3 [(0, .ref (A 0)), (1, .ref (A 2))] := hl
  refine lv_iconst (v := 0) hx hb dX5_passes_0 (by decide) ?_
  refine lv_istore_n (lv' := [(2, .int (0 : Int32)), (0, .ref (A 0)), (1, .ref (A 2))]) hx hb dX5_passes_1 rfl hl (by decide) rfl (fun ls hl => ?_)
  refine lp_ind (P := fun (q2 : Int32 × St) => ∀ (H : Heap) (locs : List Loc) (ls : Array Slot), va_P D vwCl (cM cI A q2.2) H → va_D AA (cM cI A q2.2) → va_S AA s.heap H locs → lv_has ls 3 [(0, .ref (A 0)), (1, .ref (A 2)), (2, .int q2.1)] → W p l e rm_X5_passes_a2 s m args below meth c H locs 0 0 Q (F0 m 2 ls [])) hf ?_ H locs ls hP hD hS (lv_sub hl [1, 2, 0] rfl)
  clear hf hP hD hS hl
  intro nx2 ih2 q2 hf H locs ls hP hD hS hl
  refine lv_iload_n hx hb dX5_passes_2 rfl (lv_at hl 2 rfl) ?_
  refine lv_aload_n hx hb dX5_passes_3 rfl (lv_at hl 1 rfl) ?_
  refine va_alen hx hb hK hP 2 0 cM_at2 rfl (v := 5) rfl dX5_passes_4 ?_
  refine lv_icmp_ge (tgt := 58) hx hb dX5_passes_5 (by decide) (fun c_1 => ?_) (fun c_1 => ?_)
  · replace hf := if_t c_1 hf
    exact hend q2.2 H locs _ _ hf hP hS dX5_passes_58
  · replace hf := if_f c_1 hf
    refine lv_aload_n hx hb dX5_passes_8 rfl (lv_at hl 0 rfl) ?_
    refine va_get (D := D) (ci := 5) (v := .int (q2.2 16 8)) (C := RX5) (T := TX5) (N := 27) hx hb hts hw5 hown hK hP 0 cM_at0 rfl 21 (by decide) k146 (fun _ h9 => h9) rfl dX5_passes_9 ?_
    refine lv_if_eq (tgt := 30) hx hb dX5_passes_12 (by decide) (fun c_2 => ?_) (fun c_2 => ?_)
    · replace hf := if_t c_2 hf
      refine lv_aload_n hx hb dX5_passes_30 rfl (lv_at hl 1 rfl) ?_
      refine lv_iload_n hx hb dX5_passes_31 rfl (lv_at hl 2 rfl) ?_
      refine lv_aload_n hx hb dX5_passes_32 rfl (lv_at hl 0 rfl) ?_
      refine va_get (D := D) (ci := 5) (v := .ref (A 13)) (C := RX5) (T := TX5) (N := 27) hx hb hts hw5 hown hK hP 0 cM_at0 rfl 19 (by decide) k46 (fun _ h9 => h9) rfl dX5_passes_33 ?_
      refine lv_aload_n hx hb dX5_passes_36 rfl (lv_at hl 0 rfl) ?_
      refine va_get (D := D) (ci := 5) (v := .int (q2.2 16 9)) (C := RX5) (T := TX5) (N := 27) hx hb hts hw5 hown hK hP 0 cM_at0 rfl 22 (by decide) k150 (fun _ h9 => h9) rfl dX5_passes_37 ?_
      obtain ⟨c_3, hf⟩ := gi_e hf
      refine va_iald hx hb hK hP 13 0 cM_at13 rfl c_3 dX5_passes_40 ?_
      obtain ⟨c_4, hf⟩ := gi_e hf
      refine va_iast hx hb hK hP hD hS 2 0 cM_at2 rfl c_4 dX5_passes_41 (fun H locs hP hD hS => ?_)
      obtain ⟨h_5, eh_5, hf⟩ := nq_e hf
      rw [cM_su2, ← eh_5] at hP hD
      refine lv_aload_n hx hb dX5_passes_42 rfl (lv_at hl 0 rfl) ?_
      refine lv_dup hx hb dX5_passes_43 rfl ?_
      refine va_get (D := D) (ci := 5) (v := .int (h_5 16 9)) (C := RX5) (T := TX5) (N := 27) hx hb hts hw5 hown hK hP 0 cM_at0 rfl 22 (by decide) k150 (fun _ h9 => h9) rfl dX5_passes_44 ?_
      refine lv_iconst (v := 1) hx hb dX5_passes_47 (by decide) ?_
      refine lv_iadd hx hb dX5_passes_48 ?_
      refine va_put (D := D) (ci := 5) (v := .int ((h_5 16 9) + (1 : Int32))) (ty := .int) (C := RX5) (T := TX5) (N := 27) hx hb hts hw5 tyX5 tyX5_ok nmX5 hown hK hP hD hS 0 cM_at0 rfl 22 (by decide) k150 (fun _ h9 => h9) rfl (tyX5_ok 22 (by decide)) rfl rfl (Nat.le_of_ble_eq_true rfl) dX5_passes_49 (fun H locs hP hD hS => ?_)
      obtain ⟨h_6, eh_6, hf⟩ := nq_e hf
      rw [cM_sc0_22, ← eh_6] at hP hD
      obtain ⟨v_7, ev_7, hf⟩ := nq_e hf
      refine lv_iinc (v := v_7) (lv' := [(2, .int v_7), (0, .ref (A 0)), (1, .ref (A 2))]) hx hb dX5_passes_52 hl (k := 2) rfl (by rw [ev_7]; rfl) (by decide) rfl (fun ls hl => ?_)
      refine lv_goto (tgt := 2) hx hb dX5_passes_55 (by decide) ?_
      exact ih2 (v_7, h_6) hf H locs ls hP hD hS (lv_sub hl [1, 2, 0] rfl)
    · replace hf := if_f c_2 hf
      refine lv_aload_n hx hb dX5_passes_15 rfl (lv_at hl 0 rfl) ?_
      refine va_get (D := D) (ci := 5) (v := .ref (A 13)) (C := RX5) (T := TX5) (N := 27) hx hb hts hw5 hown hK hP 0 cM_at0 rfl 19 (by decide) k46 (fun _ h9 => h9) rfl dX5_passes_16 ?_
      refine lv_aload_n hx hb dX5_passes_19 rfl (lv_at hl 0 rfl) ?_
      refine va_get (D := D) (ci := 5) (v := .int (q2.2 16 9)) (C := RX5) (T := TX5) (N := 27) hx hb hts hw5 hown hK hP 0 cM_at0 rfl 22 (by decide) k150 (fun _ h9 => h9) rfl dX5_passes_20 ?_
      refine lv_aload_n hx hb dX5_passes_23 rfl (lv_at hl 1 rfl) ?_
      refine lv_iload_n hx hb dX5_passes_24 rfl (lv_at hl 2 rfl) ?_
      obtain ⟨c_8, hf⟩ := gi_e hf
      refine va_iald hx hb hK hP 2 0 cM_at2 rfl c_8 dX5_passes_25 ?_
      obtain ⟨c_9, hf⟩ := gi_e hf
      refine va_iast hx hb hK hP hD hS 13 0 cM_at13 rfl c_9 dX5_passes_26 (fun H locs hP hD hS => ?_)
      obtain ⟨h_10, eh_10, hf⟩ := nq_e hf
      rw [cM_su13, ← eh_10] at hP hD
      refine lv_goto (tgt := 42) hx hb dX5_passes_27 (by decide) ?_
      refine lv_aload_n hx hb dX5_passes_42 rfl (lv_at hl 0 rfl) ?_
      refine lv_dup hx hb dX5_passes_43 rfl ?_
      refine va_get (D := D) (ci := 5) (v := .int (h_10 16 9)) (C := RX5) (T := TX5) (N := 27) hx hb hts hw5 hown hK hP 0 cM_at0 rfl 22 (by decide) k150 (fun _ h9 => h9) rfl dX5_passes_44 ?_
      refine lv_iconst (v := 1) hx hb dX5_passes_47 (by decide) ?_
      refine lv_iadd hx hb dX5_passes_48 ?_
      refine va_put (D := D) (ci := 5) (v := .int ((h_10 16 9) + (1 : Int32))) (ty := .int) (C := RX5) (T := TX5) (N := 27) hx hb hts hw5 tyX5 tyX5_ok nmX5 hown hK hP hD hS 0 cM_at0 rfl 22 (by decide) k150 (fun _ h9 => h9) rfl (tyX5_ok 22 (by decide)) rfl rfl (Nat.le_of_ble_eq_true rfl) dX5_passes_49 (fun H locs hP hD hS => ?_)
      obtain ⟨h_11, eh_11, hf⟩ := nq_e hf
      rw [cM_sc0_22, ← eh_11] at hP hD
      obtain ⟨v_12, ev_12, hf⟩ := nq_e hf
      refine lv_iinc (v := v_12) (lv' := [(2, .int v_12), (0, .ref (A 0)), (1, .ref (A 2))]) hx hb dX5_passes_52 hl (k := 2) rfl (by rw [ev_12]; rfl) (by decide) rfl (fun ls hl => ?_)
      refine lv_goto (tgt := 2) hx hb dX5_passes_55 (by decide) ?_
      exact ih2 (v_12, h_11) hf H locs ls hP hD hS (lv_sub hl [1, 2, 0] rfl)

def rm_X5_passes_a3 : Room := { frames := 0, cells := 0, slots := 0, locals := 0 }
set_option maxRecDepth 100000 in
set_option maxHeartbeats 4000000 in
theorem c_X5_passes_a3 (l : Launch) (D : va_G) (cI : ClassId) (A : Nat → Nat) (M : St) (r : St) (hf : f_X5_passes_a3 M = some r) : Ct l yX5_passes wsX5_passes rm_X5_passes_a3 D cI (cM cI A M) (cM cI A r) [.ref (A 0), .ref (A 3)] none := by
  unfold f_X5_passes_a3 at hf
  refine Ct.ofV (cc := cX5_passes) (maxL := 3) (by decide +kernel) rfl (Nat.le_of_ble_eq_true rfl) ?_
  intro p e s m args below meth c AA Q H locs ls hx hb hml hown hts hA hK hP hD hS hl hend0
  have hend : ∀ (r1 : St) (H : Heap) (locs : List Loc) (pc : Nat) (ls : Array Slot), some r1 = some r → va_P D vwCl (cM cI A r1) H → va_S AA s.heap H locs → decode cX5_passes pc = .ok (.return_, 1) → W p l e rm_X5_passes_a3 s m args below meth c H locs 0 0 Q (F0 m pc ls []) := by
    intro r1 H locs pc ls e1 hP hS hd; cases e1; exact hend0 H locs pc ls hP hS hd
  clear hend0
  have hw5 : ∀ w ∈ wsX50, w ∈ wsX5_passes := by decide +kernel
  have k46 := hts (.fieldLink RX5 46 "AnchorsForConfessionModel" "kept" "[I") (by decide +kernel)
  have k146 := hts (.fieldLink RX5 146 "AnchorsForConfessionModel" "isKeeping" "Z") (by decide +kernel)
  have k150 := hts (.fieldLink RX5 150 "AnchorsForConfessionModel" "cursor" "I") (by decide +kernel)
  replace hl : lv_has ls 3 [(0, .ref (A 0)), (1, .ref (A 3))] := hl
  refine lv_iconst (v := 0) hx hb dX5_passes_0 (by decide) ?_
  refine lv_istore_n (lv' := [(2, .int (0 : Int32)), (0, .ref (A 0)), (1, .ref (A 3))]) hx hb dX5_passes_1 rfl hl (by decide) rfl (fun ls hl => ?_)
  refine lp_ind (P := fun (q2 : Int32 × St) => ∀ (H : Heap) (locs : List Loc) (ls : Array Slot), va_P D vwCl (cM cI A q2.2) H → va_D AA (cM cI A q2.2) → va_S AA s.heap H locs → lv_has ls 3 [(0, .ref (A 0)), (1, .ref (A 3)), (2, .int q2.1)] → W p l e rm_X5_passes_a3 s m args below meth c H locs 0 0 Q (F0 m 2 ls [])) hf ?_ H locs ls hP hD hS (lv_sub hl [1, 2, 0] rfl)
  clear hf hP hD hS hl
  intro nx2 ih2 q2 hf H locs ls hP hD hS hl
  refine lv_iload_n hx hb dX5_passes_2 rfl (lv_at hl 2 rfl) ?_
  refine lv_aload_n hx hb dX5_passes_3 rfl (lv_at hl 1 rfl) ?_
  refine va_alen hx hb hK hP 3 0 cM_at3 rfl (v := 5) rfl dX5_passes_4 ?_
  refine lv_icmp_ge (tgt := 58) hx hb dX5_passes_5 (by decide) (fun c_1 => ?_) (fun c_1 => ?_)
  · replace hf := if_t c_1 hf
    exact hend q2.2 H locs _ _ hf hP hS dX5_passes_58
  · replace hf := if_f c_1 hf
    refine lv_aload_n hx hb dX5_passes_8 rfl (lv_at hl 0 rfl) ?_
    refine va_get (D := D) (ci := 5) (v := .int (q2.2 16 8)) (C := RX5) (T := TX5) (N := 27) hx hb hts hw5 hown hK hP 0 cM_at0 rfl 21 (by decide) k146 (fun _ h9 => h9) rfl dX5_passes_9 ?_
    refine lv_if_eq (tgt := 30) hx hb dX5_passes_12 (by decide) (fun c_2 => ?_) (fun c_2 => ?_)
    · replace hf := if_t c_2 hf
      refine lv_aload_n hx hb dX5_passes_30 rfl (lv_at hl 1 rfl) ?_
      refine lv_iload_n hx hb dX5_passes_31 rfl (lv_at hl 2 rfl) ?_
      refine lv_aload_n hx hb dX5_passes_32 rfl (lv_at hl 0 rfl) ?_
      refine va_get (D := D) (ci := 5) (v := .ref (A 13)) (C := RX5) (T := TX5) (N := 27) hx hb hts hw5 hown hK hP 0 cM_at0 rfl 19 (by decide) k46 (fun _ h9 => h9) rfl dX5_passes_33 ?_
      refine lv_aload_n hx hb dX5_passes_36 rfl (lv_at hl 0 rfl) ?_
      refine va_get (D := D) (ci := 5) (v := .int (q2.2 16 9)) (C := RX5) (T := TX5) (N := 27) hx hb hts hw5 hown hK hP 0 cM_at0 rfl 22 (by decide) k150 (fun _ h9 => h9) rfl dX5_passes_37 ?_
      obtain ⟨c_3, hf⟩ := gi_e hf
      refine va_iald hx hb hK hP 13 0 cM_at13 rfl c_3 dX5_passes_40 ?_
      obtain ⟨c_4, hf⟩ := gi_e hf
      refine va_iast hx hb hK hP hD hS 3 0 cM_at3 rfl c_4 dX5_passes_41 (fun H locs hP hD hS => ?_)
      obtain ⟨h_5, eh_5, hf⟩ := nq_e hf
      rw [cM_su3, ← eh_5] at hP hD
      refine lv_aload_n hx hb dX5_passes_42 rfl (lv_at hl 0 rfl) ?_
      refine lv_dup hx hb dX5_passes_43 rfl ?_
      refine va_get (D := D) (ci := 5) (v := .int (h_5 16 9)) (C := RX5) (T := TX5) (N := 27) hx hb hts hw5 hown hK hP 0 cM_at0 rfl 22 (by decide) k150 (fun _ h9 => h9) rfl dX5_passes_44 ?_
      refine lv_iconst (v := 1) hx hb dX5_passes_47 (by decide) ?_
      refine lv_iadd hx hb dX5_passes_48 ?_
      refine va_put (D := D) (ci := 5) (v := .int ((h_5 16 9) + (1 : Int32))) (ty := .int) (C := RX5) (T := TX5) (N := 27) hx hb hts hw5 tyX5 tyX5_ok nmX5 hown hK hP hD hS 0 cM_at0 rfl 22 (by decide) k150 (fun _ h9 => h9) rfl (tyX5_ok 22 (by decide)) rfl rfl (Nat.le_of_ble_eq_true rfl) dX5_passes_49 (fun H locs hP hD hS => ?_)
      obtain ⟨h_6, eh_6, hf⟩ := nq_e hf
      rw [cM_sc0_22, ← eh_6] at hP hD
      obtain ⟨v_7, ev_7, hf⟩ := nq_e hf
      refine lv_iinc (v := v_7) (lv' := [(2, .int v_7), (0, .ref (A 0)), (1, .ref (A 3))]) hx hb dX5_passes_52 hl (k := 2) rfl (by rw [ev_7]; rfl) (by decide) rfl (fun ls hl => ?_)
      refine lv_goto (tgt := 2) hx hb dX5_passes_55 (by decide) ?_
      exact ih2 (v_7, h_6) hf H locs ls hP hD hS (lv_sub hl [1, 2, 0] rfl)
    · replace hf := if_f c_2 hf
      refine lv_aload_n hx hb dX5_passes_15 rfl (lv_at hl 0 rfl) ?_
      refine va_get (D := D) (ci := 5) (v := .ref (A 13)) (C := RX5) (T := TX5) (N := 27) hx hb hts hw5 hown hK hP 0 cM_at0 rfl 19 (by decide) k46 (fun _ h9 => h9) rfl dX5_passes_16 ?_
      refine lv_aload_n hx hb dX5_passes_19 rfl (lv_at hl 0 rfl) ?_
      refine va_get (D := D) (ci := 5) (v := .int (q2.2 16 9)) (C := RX5) (T := TX5) (N := 27) hx hb hts hw5 hown hK hP 0 cM_at0 rfl 22 (by decide) k150 (fun _ h9 => h9) rfl dX5_passes_20 ?_
      refine lv_aload_n hx hb dX5_passes_23 rfl (lv_at hl 1 rfl) ?_
      refine lv_iload_n hx hb dX5_passes_24 rfl (lv_at hl 2 rfl) ?_
      obtain ⟨c_8, hf⟩ := gi_e hf
      refine va_iald hx hb hK hP 3 0 cM_at3 rfl c_8 dX5_passes_25 ?_
      obtain ⟨c_9, hf⟩ := gi_e hf
      refine va_iast hx hb hK hP hD hS 13 0 cM_at13 rfl c_9 dX5_passes_26 (fun H locs hP hD hS => ?_)
      obtain ⟨h_10, eh_10, hf⟩ := nq_e hf
      rw [cM_su13, ← eh_10] at hP hD
      refine lv_goto (tgt := 42) hx hb dX5_passes_27 (by decide) ?_
      refine lv_aload_n hx hb dX5_passes_42 rfl (lv_at hl 0 rfl) ?_
      refine lv_dup hx hb dX5_passes_43 rfl ?_
      refine va_get (D := D) (ci := 5) (v := .int (h_10 16 9)) (C := RX5) (T := TX5) (N := 27) hx hb hts hw5 hown hK hP 0 cM_at0 rfl 22 (by decide) k150 (fun _ h9 => h9) rfl dX5_passes_44 ?_
      refine lv_iconst (v := 1) hx hb dX5_passes_47 (by decide) ?_
      refine lv_iadd hx hb dX5_passes_48 ?_
      refine va_put (D := D) (ci := 5) (v := .int ((h_10 16 9) + (1 : Int32))) (ty := .int) (C := RX5) (T := TX5) (N := 27) hx hb hts hw5 tyX5 tyX5_ok nmX5 hown hK hP hD hS 0 cM_at0 rfl 22 (by decide) k150 (fun _ h9 => h9) rfl (tyX5_ok 22 (by decide)) rfl rfl (Nat.le_of_ble_eq_true rfl) dX5_passes_49 (fun H locs hP hD hS => ?_)
      obtain ⟨h_11, eh_11, hf⟩ := nq_e hf
      rw [cM_sc0_22, ← eh_11] at hP hD
      obtain ⟨v_12, ev_12, hf⟩ := nq_e hf
      refine lv_iinc (v := v_12) (lv' := [(2, .int v_12), (0, .ref (A 0)), (1, .ref (A 3))]) hx hb dX5_passes_52 hl (k := 2) rfl (by rw [ev_12]; rfl) (by decide) rfl (fun ls hl => ?_)
      refine lv_goto (tgt := 2) hx hb dX5_passes_55 (by decide) ?_
      exact ih2 (v_12, h_11) hf H locs ls hP hD hS (lv_sub hl [1, 2, 0] rfl)

def rm_X5_passes_a4 : Room := { frames := 0, cells := 0, slots := 0, locals := 0 }
set_option maxRecDepth 100000 in
set_option maxHeartbeats 4000000 in
theorem c_X5_passes_a4 (l : Launch) (D : va_G) (cI : ClassId) (A : Nat → Nat) (M : St) (r : St) (hf : f_X5_passes_a4 M = some r) : Ct l yX5_passes wsX5_passes rm_X5_passes_a4 D cI (cM cI A M) (cM cI A r) [.ref (A 0), .ref (A 4)] none := by
  unfold f_X5_passes_a4 at hf
  refine Ct.ofV (cc := cX5_passes) (maxL := 3) (by decide +kernel) rfl (Nat.le_of_ble_eq_true rfl) ?_
  intro p e s m args below meth c AA Q H locs ls hx hb hml hown hts hA hK hP hD hS hl hend0
  have hend : ∀ (r1 : St) (H : Heap) (locs : List Loc) (pc : Nat) (ls : Array Slot), some r1 = some r → va_P D vwCl (cM cI A r1) H → va_S AA s.heap H locs → decode cX5_passes pc = .ok (.return_, 1) → W p l e rm_X5_passes_a4 s m args below meth c H locs 0 0 Q (F0 m pc ls []) := by
    intro r1 H locs pc ls e1 hP hS hd; cases e1; exact hend0 H locs pc ls hP hS hd
  clear hend0
  have hw5 : ∀ w ∈ wsX50, w ∈ wsX5_passes := by decide +kernel
  have k46 := hts (.fieldLink RX5 46 "AnchorsForConfessionModel" "kept" "[I") (by decide +kernel)
  have k146 := hts (.fieldLink RX5 146 "AnchorsForConfessionModel" "isKeeping" "Z") (by decide +kernel)
  have k150 := hts (.fieldLink RX5 150 "AnchorsForConfessionModel" "cursor" "I") (by decide +kernel)
  replace hl : lv_has ls 3 [(0, .ref (A 0)), (1, .ref (A 4))] := hl
  refine lv_iconst (v := 0) hx hb dX5_passes_0 (by decide) ?_
  refine lv_istore_n (lv' := [(2, .int (0 : Int32)), (0, .ref (A 0)), (1, .ref (A 4))]) hx hb dX5_passes_1 rfl hl (by decide) rfl (fun ls hl => ?_)
  refine lp_ind (P := fun (q2 : Int32 × St) => ∀ (H : Heap) (locs : List Loc) (ls : Array Slot), va_P D vwCl (cM cI A q2.2) H → va_D AA (cM cI A q2.2) → va_S AA s.heap H locs → lv_has ls 3 [(0, .ref (A 0)), (1, .ref (A 4)), (2, .int q2.1)] → W p l e rm_X5_passes_a4 s m args below meth c H locs 0 0 Q (F0 m 2 ls [])) hf ?_ H locs ls hP hD hS (lv_sub hl [1, 2, 0] rfl)
  clear hf hP hD hS hl
  intro nx2 ih2 q2 hf H locs ls hP hD hS hl
  refine lv_iload_n hx hb dX5_passes_2 rfl (lv_at hl 2 rfl) ?_
  refine lv_aload_n hx hb dX5_passes_3 rfl (lv_at hl 1 rfl) ?_
  refine va_alen hx hb hK hP 4 0 cM_at4 rfl (v := 5) rfl dX5_passes_4 ?_
  refine lv_icmp_ge (tgt := 58) hx hb dX5_passes_5 (by decide) (fun c_1 => ?_) (fun c_1 => ?_)
  · replace hf := if_t c_1 hf
    exact hend q2.2 H locs _ _ hf hP hS dX5_passes_58
  · replace hf := if_f c_1 hf
    refine lv_aload_n hx hb dX5_passes_8 rfl (lv_at hl 0 rfl) ?_
    refine va_get (D := D) (ci := 5) (v := .int (q2.2 16 8)) (C := RX5) (T := TX5) (N := 27) hx hb hts hw5 hown hK hP 0 cM_at0 rfl 21 (by decide) k146 (fun _ h9 => h9) rfl dX5_passes_9 ?_
    refine lv_if_eq (tgt := 30) hx hb dX5_passes_12 (by decide) (fun c_2 => ?_) (fun c_2 => ?_)
    · replace hf := if_t c_2 hf
      refine lv_aload_n hx hb dX5_passes_30 rfl (lv_at hl 1 rfl) ?_
      refine lv_iload_n hx hb dX5_passes_31 rfl (lv_at hl 2 rfl) ?_
      refine lv_aload_n hx hb dX5_passes_32 rfl (lv_at hl 0 rfl) ?_
      refine va_get (D := D) (ci := 5) (v := .ref (A 13)) (C := RX5) (T := TX5) (N := 27) hx hb hts hw5 hown hK hP 0 cM_at0 rfl 19 (by decide) k46 (fun _ h9 => h9) rfl dX5_passes_33 ?_
      refine lv_aload_n hx hb dX5_passes_36 rfl (lv_at hl 0 rfl) ?_
      refine va_get (D := D) (ci := 5) (v := .int (q2.2 16 9)) (C := RX5) (T := TX5) (N := 27) hx hb hts hw5 hown hK hP 0 cM_at0 rfl 22 (by decide) k150 (fun _ h9 => h9) rfl dX5_passes_37 ?_
      obtain ⟨c_3, hf⟩ := gi_e hf
      refine va_iald hx hb hK hP 13 0 cM_at13 rfl c_3 dX5_passes_40 ?_
      obtain ⟨c_4, hf⟩ := gi_e hf
      refine va_iast hx hb hK hP hD hS 4 0 cM_at4 rfl c_4 dX5_passes_41 (fun H locs hP hD hS => ?_)
      obtain ⟨h_5, eh_5, hf⟩ := nq_e hf
      rw [cM_su4, ← eh_5] at hP hD
      refine lv_aload_n hx hb dX5_passes_42 rfl (lv_at hl 0 rfl) ?_
      refine lv_dup hx hb dX5_passes_43 rfl ?_
      refine va_get (D := D) (ci := 5) (v := .int (h_5 16 9)) (C := RX5) (T := TX5) (N := 27) hx hb hts hw5 hown hK hP 0 cM_at0 rfl 22 (by decide) k150 (fun _ h9 => h9) rfl dX5_passes_44 ?_
      refine lv_iconst (v := 1) hx hb dX5_passes_47 (by decide) ?_
      refine lv_iadd hx hb dX5_passes_48 ?_
      refine va_put (D := D) (ci := 5) (v := .int ((h_5 16 9) + (1 : Int32))) (ty := .int) (C := RX5) (T := TX5) (N := 27) hx hb hts hw5 tyX5 tyX5_ok nmX5 hown hK hP hD hS 0 cM_at0 rfl 22 (by decide) k150 (fun _ h9 => h9) rfl (tyX5_ok 22 (by decide)) rfl rfl (Nat.le_of_ble_eq_true rfl) dX5_passes_49 (fun H locs hP hD hS => ?_)
      obtain ⟨h_6, eh_6, hf⟩ := nq_e hf
      rw [cM_sc0_22, ← eh_6] at hP hD
      obtain ⟨v_7, ev_7, hf⟩ := nq_e hf
      refine lv_iinc (v := v_7) (lv' := [(2, .int v_7), (0, .ref (A 0)), (1, .ref (A 4))]) hx hb dX5_passes_52 hl (k := 2) rfl (by rw [ev_7]; rfl) (by decide) rfl (fun ls hl => ?_)
      refine lv_goto (tgt := 2) hx hb dX5_passes_55 (by decide) ?_
      exact ih2 (v_7, h_6) hf H locs ls hP hD hS (lv_sub hl [1, 2, 0] rfl)
    · replace hf := if_f c_2 hf
      refine lv_aload_n hx hb dX5_passes_15 rfl (lv_at hl 0 rfl) ?_
      refine va_get (D := D) (ci := 5) (v := .ref (A 13)) (C := RX5) (T := TX5) (N := 27) hx hb hts hw5 hown hK hP 0 cM_at0 rfl 19 (by decide) k46 (fun _ h9 => h9) rfl dX5_passes_16 ?_
      refine lv_aload_n hx hb dX5_passes_19 rfl (lv_at hl 0 rfl) ?_
      refine va_get (D := D) (ci := 5) (v := .int (q2.2 16 9)) (C := RX5) (T := TX5) (N := 27) hx hb hts hw5 hown hK hP 0 cM_at0 rfl 22 (by decide) k150 (fun _ h9 => h9) rfl dX5_passes_20 ?_
      refine lv_aload_n hx hb dX5_passes_23 rfl (lv_at hl 1 rfl) ?_
      refine lv_iload_n hx hb dX5_passes_24 rfl (lv_at hl 2 rfl) ?_
      obtain ⟨c_8, hf⟩ := gi_e hf
      refine va_iald hx hb hK hP 4 0 cM_at4 rfl c_8 dX5_passes_25 ?_
      obtain ⟨c_9, hf⟩ := gi_e hf
      refine va_iast hx hb hK hP hD hS 13 0 cM_at13 rfl c_9 dX5_passes_26 (fun H locs hP hD hS => ?_)
      obtain ⟨h_10, eh_10, hf⟩ := nq_e hf
      rw [cM_su13, ← eh_10] at hP hD
      refine lv_goto (tgt := 42) hx hb dX5_passes_27 (by decide) ?_
      refine lv_aload_n hx hb dX5_passes_42 rfl (lv_at hl 0 rfl) ?_
      refine lv_dup hx hb dX5_passes_43 rfl ?_
      refine va_get (D := D) (ci := 5) (v := .int (h_10 16 9)) (C := RX5) (T := TX5) (N := 27) hx hb hts hw5 hown hK hP 0 cM_at0 rfl 22 (by decide) k150 (fun _ h9 => h9) rfl dX5_passes_44 ?_
      refine lv_iconst (v := 1) hx hb dX5_passes_47 (by decide) ?_
      refine lv_iadd hx hb dX5_passes_48 ?_
      refine va_put (D := D) (ci := 5) (v := .int ((h_10 16 9) + (1 : Int32))) (ty := .int) (C := RX5) (T := TX5) (N := 27) hx hb hts hw5 tyX5 tyX5_ok nmX5 hown hK hP hD hS 0 cM_at0 rfl 22 (by decide) k150 (fun _ h9 => h9) rfl (tyX5_ok 22 (by decide)) rfl rfl (Nat.le_of_ble_eq_true rfl) dX5_passes_49 (fun H locs hP hD hS => ?_)
      obtain ⟨h_11, eh_11, hf⟩ := nq_e hf
      rw [cM_sc0_22, ← eh_11] at hP hD
      obtain ⟨v_12, ev_12, hf⟩ := nq_e hf
      refine lv_iinc (v := v_12) (lv' := [(2, .int v_12), (0, .ref (A 0)), (1, .ref (A 4))]) hx hb dX5_passes_52 hl (k := 2) rfl (by rw [ev_12]; rfl) (by decide) rfl (fun ls hl => ?_)
      refine lv_goto (tgt := 2) hx hb dX5_passes_55 (by decide) ?_
      exact ih2 (v_12, h_11) hf H locs ls hP hD hS (lv_sub hl [1, 2, 0] rfl)

def rm_X5_passes_a5 : Room := { frames := 0, cells := 0, slots := 0, locals := 0 }
set_option maxRecDepth 100000 in
set_option maxHeartbeats 4000000 in
theorem c_X5_passes_a5 (l : Launch) (D : va_G) (cI : ClassId) (A : Nat → Nat) (M : St) (r : St) (hf : f_X5_passes_a5 M = some r) : Ct l yX5_passes wsX5_passes rm_X5_passes_a5 D cI (cM cI A M) (cM cI A r) [.ref (A 0), .ref (A 5)] none := by
  unfold f_X5_passes_a5 at hf
  refine Ct.ofV (cc := cX5_passes) (maxL := 3) (by decide +kernel) rfl (Nat.le_of_ble_eq_true rfl) ?_
  intro p e s m args below meth c AA Q H locs ls hx hb hml hown hts hA hK hP hD hS hl hend0
  have hend : ∀ (r1 : St) (H : Heap) (locs : List Loc) (pc : Nat) (ls : Array Slot), some r1 = some r → va_P D vwCl (cM cI A r1) H → va_S AA s.heap H locs → decode cX5_passes pc = .ok (.return_, 1) → W p l e rm_X5_passes_a5 s m args below meth c H locs 0 0 Q (F0 m pc ls []) := by
    intro r1 H locs pc ls e1 hP hS hd; cases e1; exact hend0 H locs pc ls hP hS hd
  clear hend0
  have hw5 : ∀ w ∈ wsX50, w ∈ wsX5_passes := by decide +kernel
  have k46 := hts (.fieldLink RX5 46 "AnchorsForConfessionModel" "kept" "[I") (by decide +kernel)
  have k146 := hts (.fieldLink RX5 146 "AnchorsForConfessionModel" "isKeeping" "Z") (by decide +kernel)
  have k150 := hts (.fieldLink RX5 150 "AnchorsForConfessionModel" "cursor" "I") (by decide +kernel)
  replace hl : lv_has ls 3 [(0, .ref (A 0)), (1, .ref (A 5))] := hl
  refine lv_iconst (v := 0) hx hb dX5_passes_0 (by decide) ?_
  refine lv_istore_n (lv' := [(2, .int (0 : Int32)), (0, .ref (A 0)), (1, .ref (A 5))]) hx hb dX5_passes_1 rfl hl (by decide) rfl (fun ls hl => ?_)
  refine lp_ind (P := fun (q2 : Int32 × St) => ∀ (H : Heap) (locs : List Loc) (ls : Array Slot), va_P D vwCl (cM cI A q2.2) H → va_D AA (cM cI A q2.2) → va_S AA s.heap H locs → lv_has ls 3 [(0, .ref (A 0)), (1, .ref (A 5)), (2, .int q2.1)] → W p l e rm_X5_passes_a5 s m args below meth c H locs 0 0 Q (F0 m 2 ls [])) hf ?_ H locs ls hP hD hS (lv_sub hl [1, 2, 0] rfl)
  clear hf hP hD hS hl
  intro nx2 ih2 q2 hf H locs ls hP hD hS hl
  refine lv_iload_n hx hb dX5_passes_2 rfl (lv_at hl 2 rfl) ?_
  refine lv_aload_n hx hb dX5_passes_3 rfl (lv_at hl 1 rfl) ?_
  refine va_alen hx hb hK hP 5 0 cM_at5 rfl (v := 8) rfl dX5_passes_4 ?_
  refine lv_icmp_ge (tgt := 58) hx hb dX5_passes_5 (by decide) (fun c_1 => ?_) (fun c_1 => ?_)
  · replace hf := if_t c_1 hf
    exact hend q2.2 H locs _ _ hf hP hS dX5_passes_58
  · replace hf := if_f c_1 hf
    refine lv_aload_n hx hb dX5_passes_8 rfl (lv_at hl 0 rfl) ?_
    refine va_get (D := D) (ci := 5) (v := .int (q2.2 16 8)) (C := RX5) (T := TX5) (N := 27) hx hb hts hw5 hown hK hP 0 cM_at0 rfl 21 (by decide) k146 (fun _ h9 => h9) rfl dX5_passes_9 ?_
    refine lv_if_eq (tgt := 30) hx hb dX5_passes_12 (by decide) (fun c_2 => ?_) (fun c_2 => ?_)
    · replace hf := if_t c_2 hf
      refine lv_aload_n hx hb dX5_passes_30 rfl (lv_at hl 1 rfl) ?_
      refine lv_iload_n hx hb dX5_passes_31 rfl (lv_at hl 2 rfl) ?_
      refine lv_aload_n hx hb dX5_passes_32 rfl (lv_at hl 0 rfl) ?_
      refine va_get (D := D) (ci := 5) (v := .ref (A 13)) (C := RX5) (T := TX5) (N := 27) hx hb hts hw5 hown hK hP 0 cM_at0 rfl 19 (by decide) k46 (fun _ h9 => h9) rfl dX5_passes_33 ?_
      refine lv_aload_n hx hb dX5_passes_36 rfl (lv_at hl 0 rfl) ?_
      refine va_get (D := D) (ci := 5) (v := .int (q2.2 16 9)) (C := RX5) (T := TX5) (N := 27) hx hb hts hw5 hown hK hP 0 cM_at0 rfl 22 (by decide) k150 (fun _ h9 => h9) rfl dX5_passes_37 ?_
      obtain ⟨c_3, hf⟩ := gi_e hf
      refine va_iald hx hb hK hP 13 0 cM_at13 rfl c_3 dX5_passes_40 ?_
      obtain ⟨c_4, hf⟩ := gi_e hf
      refine va_iast hx hb hK hP hD hS 5 0 cM_at5 rfl c_4 dX5_passes_41 (fun H locs hP hD hS => ?_)
      obtain ⟨h_5, eh_5, hf⟩ := nq_e hf
      rw [cM_su5, ← eh_5] at hP hD
      refine lv_aload_n hx hb dX5_passes_42 rfl (lv_at hl 0 rfl) ?_
      refine lv_dup hx hb dX5_passes_43 rfl ?_
      refine va_get (D := D) (ci := 5) (v := .int (h_5 16 9)) (C := RX5) (T := TX5) (N := 27) hx hb hts hw5 hown hK hP 0 cM_at0 rfl 22 (by decide) k150 (fun _ h9 => h9) rfl dX5_passes_44 ?_
      refine lv_iconst (v := 1) hx hb dX5_passes_47 (by decide) ?_
      refine lv_iadd hx hb dX5_passes_48 ?_
      refine va_put (D := D) (ci := 5) (v := .int ((h_5 16 9) + (1 : Int32))) (ty := .int) (C := RX5) (T := TX5) (N := 27) hx hb hts hw5 tyX5 tyX5_ok nmX5 hown hK hP hD hS 0 cM_at0 rfl 22 (by decide) k150 (fun _ h9 => h9) rfl (tyX5_ok 22 (by decide)) rfl rfl (Nat.le_of_ble_eq_true rfl) dX5_passes_49 (fun H locs hP hD hS => ?_)
      obtain ⟨h_6, eh_6, hf⟩ := nq_e hf
      rw [cM_sc0_22, ← eh_6] at hP hD
      obtain ⟨v_7, ev_7, hf⟩ := nq_e hf
      refine lv_iinc (v := v_7) (lv' := [(2, .int v_7), (0, .ref (A 0)), (1, .ref (A 5))]) hx hb dX5_passes_52 hl (k := 2) rfl (by rw [ev_7]; rfl) (by decide) rfl (fun ls hl => ?_)
      refine lv_goto (tgt := 2) hx hb dX5_passes_55 (by decide) ?_
      exact ih2 (v_7, h_6) hf H locs ls hP hD hS (lv_sub hl [1, 2, 0] rfl)
    · replace hf := if_f c_2 hf
      refine lv_aload_n hx hb dX5_passes_15 rfl (lv_at hl 0 rfl) ?_
      refine va_get (D := D) (ci := 5) (v := .ref (A 13)) (C := RX5) (T := TX5) (N := 27) hx hb hts hw5 hown hK hP 0 cM_at0 rfl 19 (by decide) k46 (fun _ h9 => h9) rfl dX5_passes_16 ?_
      refine lv_aload_n hx hb dX5_passes_19 rfl (lv_at hl 0 rfl) ?_
      refine va_get (D := D) (ci := 5) (v := .int (q2.2 16 9)) (C := RX5) (T := TX5) (N := 27) hx hb hts hw5 hown hK hP 0 cM_at0 rfl 22 (by decide) k150 (fun _ h9 => h9) rfl dX5_passes_20 ?_
      refine lv_aload_n hx hb dX5_passes_23 rfl (lv_at hl 1 rfl) ?_
      refine lv_iload_n hx hb dX5_passes_24 rfl (lv_at hl 2 rfl) ?_
      obtain ⟨c_8, hf⟩ := gi_e hf
      refine va_iald hx hb hK hP 5 0 cM_at5 rfl c_8 dX5_passes_25 ?_
      obtain ⟨c_9, hf⟩ := gi_e hf
      refine va_iast hx hb hK hP hD hS 13 0 cM_at13 rfl c_9 dX5_passes_26 (fun H locs hP hD hS => ?_)
      obtain ⟨h_10, eh_10, hf⟩ := nq_e hf
      rw [cM_su13, ← eh_10] at hP hD
      refine lv_goto (tgt := 42) hx hb dX5_passes_27 (by decide) ?_
      refine lv_aload_n hx hb dX5_passes_42 rfl (lv_at hl 0 rfl) ?_
      refine lv_dup hx hb dX5_passes_43 rfl ?_
      refine va_get (D := D) (ci := 5) (v := .int (h_10 16 9)) (C := RX5) (T := TX5) (N := 27) hx hb hts hw5 hown hK hP 0 cM_at0 rfl 22 (by decide) k150 (fun _ h9 => h9) rfl dX5_passes_44 ?_
      refine lv_iconst (v := 1) hx hb dX5_passes_47 (by decide) ?_
      refine lv_iadd hx hb dX5_passes_48 ?_
      refine va_put (D := D) (ci := 5) (v := .int ((h_10 16 9) + (1 : Int32))) (ty := .int) (C := RX5) (T := TX5) (N := 27) hx hb hts hw5 tyX5 tyX5_ok nmX5 hown hK hP hD hS 0 cM_at0 rfl 22 (by decide) k150 (fun _ h9 => h9) rfl (tyX5_ok 22 (by decide)) rfl rfl (Nat.le_of_ble_eq_true rfl) dX5_passes_49 (fun H locs hP hD hS => ?_)
      obtain ⟨h_11, eh_11, hf⟩ := nq_e hf
      rw [cM_sc0_22, ← eh_11] at hP hD
      obtain ⟨v_12, ev_12, hf⟩ := nq_e hf
      refine lv_iinc (v := v_12) (lv' := [(2, .int v_12), (0, .ref (A 0)), (1, .ref (A 5))]) hx hb dX5_passes_52 hl (k := 2) rfl (by rw [ev_12]; rfl) (by decide) rfl (fun ls hl => ?_)
      refine lv_goto (tgt := 2) hx hb dX5_passes_55 (by decide) ?_
      exact ih2 (v_12, h_11) hf H locs ls hP hD hS (lv_sub hl [1, 2, 0] rfl)

def rm_X5_passes_a6 : Room := { frames := 0, cells := 0, slots := 0, locals := 0 }
set_option maxRecDepth 100000 in
set_option maxHeartbeats 4000000 in
theorem c_X5_passes_a6 (l : Launch) (D : va_G) (cI : ClassId) (A : Nat → Nat) (M : St) (r : St) (hf : f_X5_passes_a6 M = some r) : Ct l yX5_passes wsX5_passes rm_X5_passes_a6 D cI (cM cI A M) (cM cI A r) [.ref (A 0), .ref (A 6)] none := by
  unfold f_X5_passes_a6 at hf
  refine Ct.ofV (cc := cX5_passes) (maxL := 3) (by decide +kernel) rfl (Nat.le_of_ble_eq_true rfl) ?_
  intro p e s m args below meth c AA Q H locs ls hx hb hml hown hts hA hK hP hD hS hl hend0
  have hend : ∀ (r1 : St) (H : Heap) (locs : List Loc) (pc : Nat) (ls : Array Slot), some r1 = some r → va_P D vwCl (cM cI A r1) H → va_S AA s.heap H locs → decode cX5_passes pc = .ok (.return_, 1) → W p l e rm_X5_passes_a6 s m args below meth c H locs 0 0 Q (F0 m pc ls []) := by
    intro r1 H locs pc ls e1 hP hS hd; cases e1; exact hend0 H locs pc ls hP hS hd
  clear hend0
  have hw5 : ∀ w ∈ wsX50, w ∈ wsX5_passes := by decide +kernel
  have k46 := hts (.fieldLink RX5 46 "AnchorsForConfessionModel" "kept" "[I") (by decide +kernel)
  have k146 := hts (.fieldLink RX5 146 "AnchorsForConfessionModel" "isKeeping" "Z") (by decide +kernel)
  have k150 := hts (.fieldLink RX5 150 "AnchorsForConfessionModel" "cursor" "I") (by decide +kernel)
  replace hl : lv_has ls 3 [(0, .ref (A 0)), (1, .ref (A 6))] := hl
  refine lv_iconst (v := 0) hx hb dX5_passes_0 (by decide) ?_
  refine lv_istore_n (lv' := [(2, .int (0 : Int32)), (0, .ref (A 0)), (1, .ref (A 6))]) hx hb dX5_passes_1 rfl hl (by decide) rfl (fun ls hl => ?_)
  refine lp_ind (P := fun (q2 : Int32 × St) => ∀ (H : Heap) (locs : List Loc) (ls : Array Slot), va_P D vwCl (cM cI A q2.2) H → va_D AA (cM cI A q2.2) → va_S AA s.heap H locs → lv_has ls 3 [(0, .ref (A 0)), (1, .ref (A 6)), (2, .int q2.1)] → W p l e rm_X5_passes_a6 s m args below meth c H locs 0 0 Q (F0 m 2 ls [])) hf ?_ H locs ls hP hD hS (lv_sub hl [1, 2, 0] rfl)
  clear hf hP hD hS hl
  intro nx2 ih2 q2 hf H locs ls hP hD hS hl
  refine lv_iload_n hx hb dX5_passes_2 rfl (lv_at hl 2 rfl) ?_
  refine lv_aload_n hx hb dX5_passes_3 rfl (lv_at hl 1 rfl) ?_
  refine va_alen hx hb hK hP 6 0 cM_at6 rfl (v := 8) rfl dX5_passes_4 ?_
  refine lv_icmp_ge (tgt := 58) hx hb dX5_passes_5 (by decide) (fun c_1 => ?_) (fun c_1 => ?_)
  · replace hf := if_t c_1 hf
    exact hend q2.2 H locs _ _ hf hP hS dX5_passes_58
  · replace hf := if_f c_1 hf
    refine lv_aload_n hx hb dX5_passes_8 rfl (lv_at hl 0 rfl) ?_
    refine va_get (D := D) (ci := 5) (v := .int (q2.2 16 8)) (C := RX5) (T := TX5) (N := 27) hx hb hts hw5 hown hK hP 0 cM_at0 rfl 21 (by decide) k146 (fun _ h9 => h9) rfl dX5_passes_9 ?_
    refine lv_if_eq (tgt := 30) hx hb dX5_passes_12 (by decide) (fun c_2 => ?_) (fun c_2 => ?_)
    · replace hf := if_t c_2 hf
      refine lv_aload_n hx hb dX5_passes_30 rfl (lv_at hl 1 rfl) ?_
      refine lv_iload_n hx hb dX5_passes_31 rfl (lv_at hl 2 rfl) ?_
      refine lv_aload_n hx hb dX5_passes_32 rfl (lv_at hl 0 rfl) ?_
      refine va_get (D := D) (ci := 5) (v := .ref (A 13)) (C := RX5) (T := TX5) (N := 27) hx hb hts hw5 hown hK hP 0 cM_at0 rfl 19 (by decide) k46 (fun _ h9 => h9) rfl dX5_passes_33 ?_
      refine lv_aload_n hx hb dX5_passes_36 rfl (lv_at hl 0 rfl) ?_
      refine va_get (D := D) (ci := 5) (v := .int (q2.2 16 9)) (C := RX5) (T := TX5) (N := 27) hx hb hts hw5 hown hK hP 0 cM_at0 rfl 22 (by decide) k150 (fun _ h9 => h9) rfl dX5_passes_37 ?_
      obtain ⟨c_3, hf⟩ := gi_e hf
      refine va_iald hx hb hK hP 13 0 cM_at13 rfl c_3 dX5_passes_40 ?_
      obtain ⟨c_4, hf⟩ := gi_e hf
      refine va_iast hx hb hK hP hD hS 6 0 cM_at6 rfl c_4 dX5_passes_41 (fun H locs hP hD hS => ?_)
      obtain ⟨h_5, eh_5, hf⟩ := nq_e hf
      rw [cM_su6, ← eh_5] at hP hD
      refine lv_aload_n hx hb dX5_passes_42 rfl (lv_at hl 0 rfl) ?_
      refine lv_dup hx hb dX5_passes_43 rfl ?_
      refine va_get (D := D) (ci := 5) (v := .int (h_5 16 9)) (C := RX5) (T := TX5) (N := 27) hx hb hts hw5 hown hK hP 0 cM_at0 rfl 22 (by decide) k150 (fun _ h9 => h9) rfl dX5_passes_44 ?_
      refine lv_iconst (v := 1) hx hb dX5_passes_47 (by decide) ?_
      refine lv_iadd hx hb dX5_passes_48 ?_
      refine va_put (D := D) (ci := 5) (v := .int ((h_5 16 9) + (1 : Int32))) (ty := .int) (C := RX5) (T := TX5) (N := 27) hx hb hts hw5 tyX5 tyX5_ok nmX5 hown hK hP hD hS 0 cM_at0 rfl 22 (by decide) k150 (fun _ h9 => h9) rfl (tyX5_ok 22 (by decide)) rfl rfl (Nat.le_of_ble_eq_true rfl) dX5_passes_49 (fun H locs hP hD hS => ?_)
      obtain ⟨h_6, eh_6, hf⟩ := nq_e hf
      rw [cM_sc0_22, ← eh_6] at hP hD
      obtain ⟨v_7, ev_7, hf⟩ := nq_e hf
      refine lv_iinc (v := v_7) (lv' := [(2, .int v_7), (0, .ref (A 0)), (1, .ref (A 6))]) hx hb dX5_passes_52 hl (k := 2) rfl (by rw [ev_7]; rfl) (by decide) rfl (fun ls hl => ?_)
      refine lv_goto (tgt := 2) hx hb dX5_passes_55 (by decide) ?_
      exact ih2 (v_7, h_6) hf H locs ls hP hD hS (lv_sub hl [1, 2, 0] rfl)
    · replace hf := if_f c_2 hf
      refine lv_aload_n hx hb dX5_passes_15 rfl (lv_at hl 0 rfl) ?_
      refine va_get (D := D) (ci := 5) (v := .ref (A 13)) (C := RX5) (T := TX5) (N := 27) hx hb hts hw5 hown hK hP 0 cM_at0 rfl 19 (by decide) k46 (fun _ h9 => h9) rfl dX5_passes_16 ?_
      refine lv_aload_n hx hb dX5_passes_19 rfl (lv_at hl 0 rfl) ?_
      refine va_get (D := D) (ci := 5) (v := .int (q2.2 16 9)) (C := RX5) (T := TX5) (N := 27) hx hb hts hw5 hown hK hP 0 cM_at0 rfl 22 (by decide) k150 (fun _ h9 => h9) rfl dX5_passes_20 ?_
      refine lv_aload_n hx hb dX5_passes_23 rfl (lv_at hl 1 rfl) ?_
      refine lv_iload_n hx hb dX5_passes_24 rfl (lv_at hl 2 rfl) ?_
      obtain ⟨c_8, hf⟩ := gi_e hf
      refine va_iald hx hb hK hP 6 0 cM_at6 rfl c_8 dX5_passes_25 ?_
      obtain ⟨c_9, hf⟩ := gi_e hf
      refine va_iast hx hb hK hP hD hS 13 0 cM_at13 rfl c_9 dX5_passes_26 (fun H locs hP hD hS => ?_)
      obtain ⟨h_10, eh_10, hf⟩ := nq_e hf
      rw [cM_su13, ← eh_10] at hP hD
      refine lv_goto (tgt := 42) hx hb dX5_passes_27 (by decide) ?_
      refine lv_aload_n hx hb dX5_passes_42 rfl (lv_at hl 0 rfl) ?_
      refine lv_dup hx hb dX5_passes_43 rfl ?_
      refine va_get (D := D) (ci := 5) (v := .int (h_10 16 9)) (C := RX5) (T := TX5) (N := 27) hx hb hts hw5 hown hK hP 0 cM_at0 rfl 22 (by decide) k150 (fun _ h9 => h9) rfl dX5_passes_44 ?_
      refine lv_iconst (v := 1) hx hb dX5_passes_47 (by decide) ?_
      refine lv_iadd hx hb dX5_passes_48 ?_
      refine va_put (D := D) (ci := 5) (v := .int ((h_10 16 9) + (1 : Int32))) (ty := .int) (C := RX5) (T := TX5) (N := 27) hx hb hts hw5 tyX5 tyX5_ok nmX5 hown hK hP hD hS 0 cM_at0 rfl 22 (by decide) k150 (fun _ h9 => h9) rfl (tyX5_ok 22 (by decide)) rfl rfl (Nat.le_of_ble_eq_true rfl) dX5_passes_49 (fun H locs hP hD hS => ?_)
      obtain ⟨h_11, eh_11, hf⟩ := nq_e hf
      rw [cM_sc0_22, ← eh_11] at hP hD
      obtain ⟨v_12, ev_12, hf⟩ := nq_e hf
      refine lv_iinc (v := v_12) (lv' := [(2, .int v_12), (0, .ref (A 0)), (1, .ref (A 6))]) hx hb dX5_passes_52 hl (k := 2) rfl (by rw [ev_12]; rfl) (by decide) rfl (fun ls hl => ?_)
      refine lv_goto (tgt := 2) hx hb dX5_passes_55 (by decide) ?_
      exact ih2 (v_12, h_11) hf H locs ls hP hD hS (lv_sub hl [1, 2, 0] rfl)

def rm_X5_passes_a7 : Room := { frames := 0, cells := 0, slots := 0, locals := 0 }
set_option maxRecDepth 100000 in
set_option maxHeartbeats 4000000 in
theorem c_X5_passes_a7 (l : Launch) (D : va_G) (cI : ClassId) (A : Nat → Nat) (M : St) (r : St) (hf : f_X5_passes_a7 M = some r) : Ct l yX5_passes wsX5_passes rm_X5_passes_a7 D cI (cM cI A M) (cM cI A r) [.ref (A 0), .ref (A 7)] none := by
  unfold f_X5_passes_a7 at hf
  refine Ct.ofV (cc := cX5_passes) (maxL := 3) (by decide +kernel) rfl (Nat.le_of_ble_eq_true rfl) ?_
  intro p e s m args below meth c AA Q H locs ls hx hb hml hown hts hA hK hP hD hS hl hend0
  have hend : ∀ (r1 : St) (H : Heap) (locs : List Loc) (pc : Nat) (ls : Array Slot), some r1 = some r → va_P D vwCl (cM cI A r1) H → va_S AA s.heap H locs → decode cX5_passes pc = .ok (.return_, 1) → W p l e rm_X5_passes_a7 s m args below meth c H locs 0 0 Q (F0 m pc ls []) := by
    intro r1 H locs pc ls e1 hP hS hd; cases e1; exact hend0 H locs pc ls hP hS hd
  clear hend0
  have hw5 : ∀ w ∈ wsX50, w ∈ wsX5_passes := by decide +kernel
  have k46 := hts (.fieldLink RX5 46 "AnchorsForConfessionModel" "kept" "[I") (by decide +kernel)
  have k146 := hts (.fieldLink RX5 146 "AnchorsForConfessionModel" "isKeeping" "Z") (by decide +kernel)
  have k150 := hts (.fieldLink RX5 150 "AnchorsForConfessionModel" "cursor" "I") (by decide +kernel)
  replace hl : lv_has ls 3 [(0, .ref (A 0)), (1, .ref (A 7))] := hl
  refine lv_iconst (v := 0) hx hb dX5_passes_0 (by decide) ?_
  refine lv_istore_n (lv' := [(2, .int (0 : Int32)), (0, .ref (A 0)), (1, .ref (A 7))]) hx hb dX5_passes_1 rfl hl (by decide) rfl (fun ls hl => ?_)
  refine lp_ind (P := fun (q2 : Int32 × St) => ∀ (H : Heap) (locs : List Loc) (ls : Array Slot), va_P D vwCl (cM cI A q2.2) H → va_D AA (cM cI A q2.2) → va_S AA s.heap H locs → lv_has ls 3 [(0, .ref (A 0)), (1, .ref (A 7)), (2, .int q2.1)] → W p l e rm_X5_passes_a7 s m args below meth c H locs 0 0 Q (F0 m 2 ls [])) hf ?_ H locs ls hP hD hS (lv_sub hl [1, 2, 0] rfl)
  clear hf hP hD hS hl
  intro nx2 ih2 q2 hf H locs ls hP hD hS hl
  refine lv_iload_n hx hb dX5_passes_2 rfl (lv_at hl 2 rfl) ?_
  refine lv_aload_n hx hb dX5_passes_3 rfl (lv_at hl 1 rfl) ?_
  refine va_alen hx hb hK hP 7 0 cM_at7 rfl (v := 8) rfl dX5_passes_4 ?_
  refine lv_icmp_ge (tgt := 58) hx hb dX5_passes_5 (by decide) (fun c_1 => ?_) (fun c_1 => ?_)
  · replace hf := if_t c_1 hf
    exact hend q2.2 H locs _ _ hf hP hS dX5_passes_58
  · replace hf := if_f c_1 hf
    refine lv_aload_n hx hb dX5_passes_8 rfl (lv_at hl 0 rfl) ?_
    refine va_get (D := D) (ci := 5) (v := .int (q2.2 16 8)) (C := RX5) (T := TX5) (N := 27) hx hb hts hw5 hown hK hP 0 cM_at0 rfl 21 (by decide) k146 (fun _ h9 => h9) rfl dX5_passes_9 ?_
    refine lv_if_eq (tgt := 30) hx hb dX5_passes_12 (by decide) (fun c_2 => ?_) (fun c_2 => ?_)
    · replace hf := if_t c_2 hf
      refine lv_aload_n hx hb dX5_passes_30 rfl (lv_at hl 1 rfl) ?_
      refine lv_iload_n hx hb dX5_passes_31 rfl (lv_at hl 2 rfl) ?_
      refine lv_aload_n hx hb dX5_passes_32 rfl (lv_at hl 0 rfl) ?_
      refine va_get (D := D) (ci := 5) (v := .ref (A 13)) (C := RX5) (T := TX5) (N := 27) hx hb hts hw5 hown hK hP 0 cM_at0 rfl 19 (by decide) k46 (fun _ h9 => h9) rfl dX5_passes_33 ?_
      refine lv_aload_n hx hb dX5_passes_36 rfl (lv_at hl 0 rfl) ?_
      refine va_get (D := D) (ci := 5) (v := .int (q2.2 16 9)) (C := RX5) (T := TX5) (N := 27) hx hb hts hw5 hown hK hP 0 cM_at0 rfl 22 (by decide) k150 (fun _ h9 => h9) rfl dX5_passes_37 ?_
      obtain ⟨c_3, hf⟩ := gi_e hf
      refine va_iald hx hb hK hP 13 0 cM_at13 rfl c_3 dX5_passes_40 ?_
      obtain ⟨c_4, hf⟩ := gi_e hf
      refine va_iast hx hb hK hP hD hS 7 0 cM_at7 rfl c_4 dX5_passes_41 (fun H locs hP hD hS => ?_)
      obtain ⟨h_5, eh_5, hf⟩ := nq_e hf
      rw [cM_su7, ← eh_5] at hP hD
      refine lv_aload_n hx hb dX5_passes_42 rfl (lv_at hl 0 rfl) ?_
      refine lv_dup hx hb dX5_passes_43 rfl ?_
      refine va_get (D := D) (ci := 5) (v := .int (h_5 16 9)) (C := RX5) (T := TX5) (N := 27) hx hb hts hw5 hown hK hP 0 cM_at0 rfl 22 (by decide) k150 (fun _ h9 => h9) rfl dX5_passes_44 ?_
      refine lv_iconst (v := 1) hx hb dX5_passes_47 (by decide) ?_
      refine lv_iadd hx hb dX5_passes_48 ?_
      refine va_put (D := D) (ci := 5) (v := .int ((h_5 16 9) + (1 : Int32))) (ty := .int) (C := RX5) (T := TX5) (N := 27) hx hb hts hw5 tyX5 tyX5_ok nmX5 hown hK hP hD hS 0 cM_at0 rfl 22 (by decide) k150 (fun _ h9 => h9) rfl (tyX5_ok 22 (by decide)) rfl rfl (Nat.le_of_ble_eq_true rfl) dX5_passes_49 (fun H locs hP hD hS => ?_)
      obtain ⟨h_6, eh_6, hf⟩ := nq_e hf
      rw [cM_sc0_22, ← eh_6] at hP hD
      obtain ⟨v_7, ev_7, hf⟩ := nq_e hf
      refine lv_iinc (v := v_7) (lv' := [(2, .int v_7), (0, .ref (A 0)), (1, .ref (A 7))]) hx hb dX5_passes_52 hl (k := 2) rfl (by rw [ev_7]; rfl) (by decide) rfl (fun ls hl => ?_)
      refine lv_goto (tgt := 2) hx hb dX5_passes_55 (by decide) ?_
      exact ih2 (v_7, h_6) hf H locs ls hP hD hS (lv_sub hl [1, 2, 0] rfl)
    · replace hf := if_f c_2 hf
      refine lv_aload_n hx hb dX5_passes_15 rfl (lv_at hl 0 rfl) ?_
      refine va_get (D := D) (ci := 5) (v := .ref (A 13)) (C := RX5) (T := TX5) (N := 27) hx hb hts hw5 hown hK hP 0 cM_at0 rfl 19 (by decide) k46 (fun _ h9 => h9) rfl dX5_passes_16 ?_
      refine lv_aload_n hx hb dX5_passes_19 rfl (lv_at hl 0 rfl) ?_
      refine va_get (D := D) (ci := 5) (v := .int (q2.2 16 9)) (C := RX5) (T := TX5) (N := 27) hx hb hts hw5 hown hK hP 0 cM_at0 rfl 22 (by decide) k150 (fun _ h9 => h9) rfl dX5_passes_20 ?_
      refine lv_aload_n hx hb dX5_passes_23 rfl (lv_at hl 1 rfl) ?_
      refine lv_iload_n hx hb dX5_passes_24 rfl (lv_at hl 2 rfl) ?_
      obtain ⟨c_8, hf⟩ := gi_e hf
      refine va_iald hx hb hK hP 7 0 cM_at7 rfl c_8 dX5_passes_25 ?_
      obtain ⟨c_9, hf⟩ := gi_e hf
      refine va_iast hx hb hK hP hD hS 13 0 cM_at13 rfl c_9 dX5_passes_26 (fun H locs hP hD hS => ?_)
      obtain ⟨h_10, eh_10, hf⟩ := nq_e hf
      rw [cM_su13, ← eh_10] at hP hD
      refine lv_goto (tgt := 42) hx hb dX5_passes_27 (by decide) ?_
      refine lv_aload_n hx hb dX5_passes_42 rfl (lv_at hl 0 rfl) ?_
      refine lv_dup hx hb dX5_passes_43 rfl ?_
      refine va_get (D := D) (ci := 5) (v := .int (h_10 16 9)) (C := RX5) (T := TX5) (N := 27) hx hb hts hw5 hown hK hP 0 cM_at0 rfl 22 (by decide) k150 (fun _ h9 => h9) rfl dX5_passes_44 ?_
      refine lv_iconst (v := 1) hx hb dX5_passes_47 (by decide) ?_
      refine lv_iadd hx hb dX5_passes_48 ?_
      refine va_put (D := D) (ci := 5) (v := .int ((h_10 16 9) + (1 : Int32))) (ty := .int) (C := RX5) (T := TX5) (N := 27) hx hb hts hw5 tyX5 tyX5_ok nmX5 hown hK hP hD hS 0 cM_at0 rfl 22 (by decide) k150 (fun _ h9 => h9) rfl (tyX5_ok 22 (by decide)) rfl rfl (Nat.le_of_ble_eq_true rfl) dX5_passes_49 (fun H locs hP hD hS => ?_)
      obtain ⟨h_11, eh_11, hf⟩ := nq_e hf
      rw [cM_sc0_22, ← eh_11] at hP hD
      obtain ⟨v_12, ev_12, hf⟩ := nq_e hf
      refine lv_iinc (v := v_12) (lv' := [(2, .int v_12), (0, .ref (A 0)), (1, .ref (A 7))]) hx hb dX5_passes_52 hl (k := 2) rfl (by rw [ev_12]; rfl) (by decide) rfl (fun ls hl => ?_)
      refine lv_goto (tgt := 2) hx hb dX5_passes_55 (by decide) ?_
      exact ih2 (v_12, h_11) hf H locs ls hP hD hS (lv_sub hl [1, 2, 0] rfl)

def rm_X5_passes_a8 : Room := { frames := 0, cells := 0, slots := 0, locals := 0 }
set_option maxRecDepth 100000 in
set_option maxHeartbeats 4000000 in
theorem c_X5_passes_a8 (l : Launch) (D : va_G) (cI : ClassId) (A : Nat → Nat) (M : St) (r : St) (hf : f_X5_passes_a8 M = some r) : Ct l yX5_passes wsX5_passes rm_X5_passes_a8 D cI (cM cI A M) (cM cI A r) [.ref (A 0), .ref (A 8)] none := by
  unfold f_X5_passes_a8 at hf
  refine Ct.ofV (cc := cX5_passes) (maxL := 3) (by decide +kernel) rfl (Nat.le_of_ble_eq_true rfl) ?_
  intro p e s m args below meth c AA Q H locs ls hx hb hml hown hts hA hK hP hD hS hl hend0
  have hend : ∀ (r1 : St) (H : Heap) (locs : List Loc) (pc : Nat) (ls : Array Slot), some r1 = some r → va_P D vwCl (cM cI A r1) H → va_S AA s.heap H locs → decode cX5_passes pc = .ok (.return_, 1) → W p l e rm_X5_passes_a8 s m args below meth c H locs 0 0 Q (F0 m pc ls []) := by
    intro r1 H locs pc ls e1 hP hS hd; cases e1; exact hend0 H locs pc ls hP hS hd
  clear hend0
  have hw5 : ∀ w ∈ wsX50, w ∈ wsX5_passes := by decide +kernel
  have k46 := hts (.fieldLink RX5 46 "AnchorsForConfessionModel" "kept" "[I") (by decide +kernel)
  have k146 := hts (.fieldLink RX5 146 "AnchorsForConfessionModel" "isKeeping" "Z") (by decide +kernel)
  have k150 := hts (.fieldLink RX5 150 "AnchorsForConfessionModel" "cursor" "I") (by decide +kernel)
  replace hl : lv_has ls 3 [(0, .ref (A 0)), (1, .ref (A 8))] := hl
  refine lv_iconst (v := 0) hx hb dX5_passes_0 (by decide) ?_
  refine lv_istore_n (lv' := [(2, .int (0 : Int32)), (0, .ref (A 0)), (1, .ref (A 8))]) hx hb dX5_passes_1 rfl hl (by decide) rfl (fun ls hl => ?_)
  refine lp_ind (P := fun (q2 : Int32 × St) => ∀ (H : Heap) (locs : List Loc) (ls : Array Slot), va_P D vwCl (cM cI A q2.2) H → va_D AA (cM cI A q2.2) → va_S AA s.heap H locs → lv_has ls 3 [(0, .ref (A 0)), (1, .ref (A 8)), (2, .int q2.1)] → W p l e rm_X5_passes_a8 s m args below meth c H locs 0 0 Q (F0 m 2 ls [])) hf ?_ H locs ls hP hD hS (lv_sub hl [1, 2, 0] rfl)
  clear hf hP hD hS hl
  intro nx2 ih2 q2 hf H locs ls hP hD hS hl
  refine lv_iload_n hx hb dX5_passes_2 rfl (lv_at hl 2 rfl) ?_
  refine lv_aload_n hx hb dX5_passes_3 rfl (lv_at hl 1 rfl) ?_
  refine va_alen hx hb hK hP 8 0 cM_at8 rfl (v := 8) rfl dX5_passes_4 ?_
  refine lv_icmp_ge (tgt := 58) hx hb dX5_passes_5 (by decide) (fun c_1 => ?_) (fun c_1 => ?_)
  · replace hf := if_t c_1 hf
    exact hend q2.2 H locs _ _ hf hP hS dX5_passes_58
  · replace hf := if_f c_1 hf
    refine lv_aload_n hx hb dX5_passes_8 rfl (lv_at hl 0 rfl) ?_
    refine va_get (D := D) (ci := 5) (v := .int (q2.2 16 8)) (C := RX5) (T := TX5) (N := 27) hx hb hts hw5 hown hK hP 0 cM_at0 rfl 21 (by decide) k146 (fun _ h9 => h9) rfl dX5_passes_9 ?_
    refine lv_if_eq (tgt := 30) hx hb dX5_passes_12 (by decide) (fun c_2 => ?_) (fun c_2 => ?_)
    · replace hf := if_t c_2 hf
      refine lv_aload_n hx hb dX5_passes_30 rfl (lv_at hl 1 rfl) ?_
      refine lv_iload_n hx hb dX5_passes_31 rfl (lv_at hl 2 rfl) ?_
      refine lv_aload_n hx hb dX5_passes_32 rfl (lv_at hl 0 rfl) ?_
      refine va_get (D := D) (ci := 5) (v := .ref (A 13)) (C := RX5) (T := TX5) (N := 27) hx hb hts hw5 hown hK hP 0 cM_at0 rfl 19 (by decide) k46 (fun _ h9 => h9) rfl dX5_passes_33 ?_
      refine lv_aload_n hx hb dX5_passes_36 rfl (lv_at hl 0 rfl) ?_
      refine va_get (D := D) (ci := 5) (v := .int (q2.2 16 9)) (C := RX5) (T := TX5) (N := 27) hx hb hts hw5 hown hK hP 0 cM_at0 rfl 22 (by decide) k150 (fun _ h9 => h9) rfl dX5_passes_37 ?_
      obtain ⟨c_3, hf⟩ := gi_e hf
      refine va_iald hx hb hK hP 13 0 cM_at13 rfl c_3 dX5_passes_40 ?_
      obtain ⟨c_4, hf⟩ := gi_e hf
      refine va_iast hx hb hK hP hD hS 8 0 cM_at8 rfl c_4 dX5_passes_41 (fun H locs hP hD hS => ?_)
      obtain ⟨h_5, eh_5, hf⟩ := nq_e hf
      rw [cM_su8, ← eh_5] at hP hD
      refine lv_aload_n hx hb dX5_passes_42 rfl (lv_at hl 0 rfl) ?_
      refine lv_dup hx hb dX5_passes_43 rfl ?_
      refine va_get (D := D) (ci := 5) (v := .int (h_5 16 9)) (C := RX5) (T := TX5) (N := 27) hx hb hts hw5 hown hK hP 0 cM_at0 rfl 22 (by decide) k150 (fun _ h9 => h9) rfl dX5_passes_44 ?_
      refine lv_iconst (v := 1) hx hb dX5_passes_47 (by decide) ?_
      refine lv_iadd hx hb dX5_passes_48 ?_
      refine va_put (D := D) (ci := 5) (v := .int ((h_5 16 9) + (1 : Int32))) (ty := .int) (C := RX5) (T := TX5) (N := 27) hx hb hts hw5 tyX5 tyX5_ok nmX5 hown hK hP hD hS 0 cM_at0 rfl 22 (by decide) k150 (fun _ h9 => h9) rfl (tyX5_ok 22 (by decide)) rfl rfl (Nat.le_of_ble_eq_true rfl) dX5_passes_49 (fun H locs hP hD hS => ?_)
      obtain ⟨h_6, eh_6, hf⟩ := nq_e hf
      rw [cM_sc0_22, ← eh_6] at hP hD
      obtain ⟨v_7, ev_7, hf⟩ := nq_e hf
      refine lv_iinc (v := v_7) (lv' := [(2, .int v_7), (0, .ref (A 0)), (1, .ref (A 8))]) hx hb dX5_passes_52 hl (k := 2) rfl (by rw [ev_7]; rfl) (by decide) rfl (fun ls hl => ?_)
      refine lv_goto (tgt := 2) hx hb dX5_passes_55 (by decide) ?_
      exact ih2 (v_7, h_6) hf H locs ls hP hD hS (lv_sub hl [1, 2, 0] rfl)
    · replace hf := if_f c_2 hf
      refine lv_aload_n hx hb dX5_passes_15 rfl (lv_at hl 0 rfl) ?_
      refine va_get (D := D) (ci := 5) (v := .ref (A 13)) (C := RX5) (T := TX5) (N := 27) hx hb hts hw5 hown hK hP 0 cM_at0 rfl 19 (by decide) k46 (fun _ h9 => h9) rfl dX5_passes_16 ?_
      refine lv_aload_n hx hb dX5_passes_19 rfl (lv_at hl 0 rfl) ?_
      refine va_get (D := D) (ci := 5) (v := .int (q2.2 16 9)) (C := RX5) (T := TX5) (N := 27) hx hb hts hw5 hown hK hP 0 cM_at0 rfl 22 (by decide) k150 (fun _ h9 => h9) rfl dX5_passes_20 ?_
      refine lv_aload_n hx hb dX5_passes_23 rfl (lv_at hl 1 rfl) ?_
      refine lv_iload_n hx hb dX5_passes_24 rfl (lv_at hl 2 rfl) ?_
      obtain ⟨c_8, hf⟩ := gi_e hf
      refine va_iald hx hb hK hP 8 0 cM_at8 rfl c_8 dX5_passes_25 ?_
      obtain ⟨c_9, hf⟩ := gi_e hf
      refine va_iast hx hb hK hP hD hS 13 0 cM_at13 rfl c_9 dX5_passes_26 (fun H locs hP hD hS => ?_)
      obtain ⟨h_10, eh_10, hf⟩ := nq_e hf
      rw [cM_su13, ← eh_10] at hP hD
      refine lv_goto (tgt := 42) hx hb dX5_passes_27 (by decide) ?_
      refine lv_aload_n hx hb dX5_passes_42 rfl (lv_at hl 0 rfl) ?_
      refine lv_dup hx hb dX5_passes_43 rfl ?_
      refine va_get (D := D) (ci := 5) (v := .int (h_10 16 9)) (C := RX5) (T := TX5) (N := 27) hx hb hts hw5 hown hK hP 0 cM_at0 rfl 22 (by decide) k150 (fun _ h9 => h9) rfl dX5_passes_44 ?_
      refine lv_iconst (v := 1) hx hb dX5_passes_47 (by decide) ?_
      refine lv_iadd hx hb dX5_passes_48 ?_
      refine va_put (D := D) (ci := 5) (v := .int ((h_10 16 9) + (1 : Int32))) (ty := .int) (C := RX5) (T := TX5) (N := 27) hx hb hts hw5 tyX5 tyX5_ok nmX5 hown hK hP hD hS 0 cM_at0 rfl 22 (by decide) k150 (fun _ h9 => h9) rfl (tyX5_ok 22 (by decide)) rfl rfl (Nat.le_of_ble_eq_true rfl) dX5_passes_49 (fun H locs hP hD hS => ?_)
      obtain ⟨h_11, eh_11, hf⟩ := nq_e hf
      rw [cM_sc0_22, ← eh_11] at hP hD
      obtain ⟨v_12, ev_12, hf⟩ := nq_e hf
      refine lv_iinc (v := v_12) (lv' := [(2, .int v_12), (0, .ref (A 0)), (1, .ref (A 8))]) hx hb dX5_passes_52 hl (k := 2) rfl (by rw [ev_12]; rfl) (by decide) rfl (fun ls hl => ?_)
      refine lv_goto (tgt := 2) hx hb dX5_passes_55 (by decide) ?_
      exact ih2 (v_12, h_11) hf H locs ls hP hD hS (lv_sub hl [1, 2, 0] rfl)

def rm_X5_passOne : Room := { frames := 0, cells := 0, slots := 0, locals := 0 }
theorem hd_X5_passOne : yX5_passOne.cls = RX5 ∧ yX5_passOne.cls ≠ "java/lang/invoke/MethodHandle" ∧ yX5_passOne.cls ≠ "java/lang/invoke/VarHandle" ∧ (parseMethodDescriptor yX5_passOne.desc).map (fun d => d.parameters.length) = some 1 := by decide +kernel
set_option maxRecDepth 100000 in
set_option maxHeartbeats 4000000 in
theorem c_X5_passOne (l : Launch) (D : va_G) (cI : ClassId) (A : Nat → Nat) (M : St) (p1 : Int32) (r : Int32 × St) (hf : f_X5_passOne M p1 = some r) : Ct l yX5_passOne wsX5_passOne rm_X5_passOne D cI (cM cI A M) (cM cI A r.2) [.ref (A 0), .int p1] (some (.int r.1)) := by
  unfold f_X5_passOne at hf
  refine Ct.ofI (cc := cX5_passOne) (maxL := 3) (by decide +kernel) rfl (Nat.le_of_ble_eq_true rfl) ?_
  intro p e s m args below meth c AA Q H locs ls hx hb hml hown hts hA hK hP hD hS hl hend0
  have hend : ∀ (r1 : Int32 × St) (H : Heap) (locs : List Loc) (pc : Nat) (ls : Array Slot), some r1 = some r → va_P D vwCl (cM cI A r1.2) H → va_S AA s.heap H locs → decode cX5_passOne pc = .ok (.ireturn, 1) → W p l e rm_X5_passOne s m args below meth c H locs 0 0 Q (F0 m pc ls [.int r1.1]) := by
    intro r1 H locs pc ls e1 hP hS hd; cases e1; exact hend0 H locs pc ls hP hS hd
  clear hend0
  have hw5 : ∀ w ∈ wsX50, w ∈ wsX5_passOne := by decide +kernel
  have k46 := hts (.fieldLink RX5 46 "AnchorsForConfessionModel" "kept" "[I") (by decide +kernel)
  have k146 := hts (.fieldLink RX5 146 "AnchorsForConfessionModel" "isKeeping" "Z") (by decide +kernel)
  have k150 := hts (.fieldLink RX5 150 "AnchorsForConfessionModel" "cursor" "I") (by decide +kernel)
  replace hl : lv_has ls 3 [(0, .ref (A 0)), (1, .int p1)] := hl
  refine lv_aload_n hx hb dX5_passOne_0 rfl (lv_at hl 0 rfl) ?_
  refine va_get (D := D) (ci := 5) (v := .int (M 16 8)) (C := RX5) (T := TX5) (N := 27) hx hb hts hw5 hown hK hP 0 cM_at0 rfl 21 (by decide) k146 (fun _ h9 => h9) rfl dX5_passOne_1 ?_
  refine lv_if_eq (tgt := 11) hx hb dX5_passOne_4 (by decide) (fun c_1 => ?_) (fun c_1 => ?_)
  · replace hf := if_t c_1 hf
    refine lv_aload_n hx hb dX5_passOne_11 rfl (lv_at hl 0 rfl) ?_
    refine va_get (D := D) (ci := 5) (v := .ref (A 13)) (C := RX5) (T := TX5) (N := 27) hx hb hts hw5 hown hK hP 0 cM_at0 rfl 19 (by decide) k46 (fun _ h9 => h9) rfl dX5_passOne_12 ?_
    refine lv_aload_n hx hb dX5_passOne_15 rfl (lv_at hl 0 rfl) ?_
    refine va_get (D := D) (ci := 5) (v := .int (M 16 9)) (C := RX5) (T := TX5) (N := 27) hx hb hts hw5 hown hK hP 0 cM_at0 rfl 22 (by decide) k150 (fun _ h9 => h9) rfl dX5_passOne_16 ?_
    obtain ⟨c_2, hf⟩ := gi_e hf
    refine va_iald hx hb hK hP 13 0 cM_at13 rfl c_2 dX5_passOne_19 ?_
    refine lv_topi (fun v_3 ev_3 => ?_)
    replace hf := nm_at ev_3 hf
    refine lv_istore_n (lv' := [(2, .int v_3), (0, .ref (A 0)), (1, .int p1)]) hx hb dX5_passOne_20 rfl hl (by decide) rfl (fun ls hl => ?_)
    refine lv_aload_n hx hb dX5_passOne_21 rfl (lv_at hl 1 rfl) ?_
    refine va_get (D := D) (ci := 5) (v := .int (M 16 8)) (C := RX5) (T := TX5) (N := 27) hx hb hts hw5 hown hK hP 0 cM_at0 rfl 21 (by decide) k146 (fun _ h9 => h9) rfl dX5_passOne_22 ?_
    refine lv_if_eq (tgt := 38) hx hb dX5_passOne_25 (by decide) (fun c_4 => ?_) (fun c_4 => ?_)
    · replace hf := if_t c_4 hf
      refine lv_aload_n hx hb dX5_passOne_38 rfl (lv_at hl 1 rfl) ?_
      refine lv_dup hx hb dX5_passOne_39 rfl ?_
      refine va_get (D := D) (ci := 5) (v := .int (M 16 9)) (C := RX5) (T := TX5) (N := 27) hx hb hts hw5 hown hK hP 0 cM_at0 rfl 22 (by decide) k150 (fun _ h9 => h9) rfl dX5_passOne_40 ?_
      refine lv_iconst (v := 1) hx hb dX5_passOne_43 (by decide) ?_
      refine lv_iadd hx hb dX5_passOne_44 ?_
      refine va_put (D := D) (ci := 5) (v := .int ((M 16 9) + (1 : Int32))) (ty := .int) (C := RX5) (T := TX5) (N := 27) hx hb hts hw5 tyX5 tyX5_ok nmX5 hown hK hP hD hS 0 cM_at0 rfl 22 (by decide) k150 (fun _ h9 => h9) rfl (tyX5_ok 22 (by decide)) rfl rfl (Nat.le_of_ble_eq_true rfl) dX5_passOne_45 (fun H locs hP hD hS => ?_)
      obtain ⟨h_5, eh_5, hf⟩ := nq_e hf
      rw [cM_sc0_22, ← eh_5] at hP hD
      refine lv_iload_n hx hb dX5_passOne_48 rfl (lv_at hl 0 rfl) ?_
      exact hend (v_3, h_5) H locs _ _ hf hP hS dX5_passOne_49
    · replace hf := if_f c_4 hf
      refine lv_aload_n hx hb dX5_passOne_28 rfl (lv_at hl 1 rfl) ?_
      refine va_get (D := D) (ci := 5) (v := .ref (A 13)) (C := RX5) (T := TX5) (N := 27) hx hb hts hw5 hown hK hP 0 cM_at0 rfl 19 (by decide) k46 (fun _ h9 => h9) rfl dX5_passOne_29 ?_
      refine lv_aload_n hx hb dX5_passOne_32 rfl (lv_at hl 1 rfl) ?_
      refine va_get (D := D) (ci := 5) (v := .int (M 16 9)) (C := RX5) (T := TX5) (N := 27) hx hb hts hw5 hown hK hP 0 cM_at0 rfl 22 (by decide) k150 (fun _ h9 => h9) rfl dX5_passOne_33 ?_
      refine lv_iload_n hx hb dX5_passOne_36 rfl (lv_at hl 2 rfl) ?_
      obtain ⟨c_6, hf⟩ := gi_e hf
      refine va_iast hx hb hK hP hD hS 13 0 cM_at13 rfl c_6 dX5_passOne_37 (fun H locs hP hD hS => ?_)
      obtain ⟨h_7, eh_7, hf⟩ := nq_e hf
      rw [cM_su13, ← eh_7] at hP hD
      refine lv_aload_n hx hb dX5_passOne_38 rfl (lv_at hl 1 rfl) ?_
      refine lv_dup hx hb dX5_passOne_39 rfl ?_
      refine va_get (D := D) (ci := 5) (v := .int (h_7 16 9)) (C := RX5) (T := TX5) (N := 27) hx hb hts hw5 hown hK hP 0 cM_at0 rfl 22 (by decide) k150 (fun _ h9 => h9) rfl dX5_passOne_40 ?_
      refine lv_iconst (v := 1) hx hb dX5_passOne_43 (by decide) ?_
      refine lv_iadd hx hb dX5_passOne_44 ?_
      refine va_put (D := D) (ci := 5) (v := .int ((h_7 16 9) + (1 : Int32))) (ty := .int) (C := RX5) (T := TX5) (N := 27) hx hb hts hw5 tyX5 tyX5_ok nmX5 hown hK hP hD hS 0 cM_at0 rfl 22 (by decide) k150 (fun _ h9 => h9) rfl (tyX5_ok 22 (by decide)) rfl rfl (Nat.le_of_ble_eq_true rfl) dX5_passOne_45 (fun H locs hP hD hS => ?_)
      obtain ⟨h_8, eh_8, hf⟩ := nq_e hf
      rw [cM_sc0_22, ← eh_8] at hP hD
      refine lv_iload_n hx hb dX5_passOne_48 rfl (lv_at hl 0 rfl) ?_
      exact hend (v_3, h_8) H locs _ _ hf hP hS dX5_passOne_49
  · replace hf := if_f c_1 hf
    refine lv_iload_n hx hb dX5_passOne_7 rfl (lv_at hl 1 rfl) ?_
    refine lv_goto (tgt := 20) hx hb dX5_passOne_8 (by decide) ?_
    refine lv_istore_n (lv' := [(2, .int p1), (0, .ref (A 0)), (1, .int p1)]) hx hb dX5_passOne_20 rfl hl (by decide) rfl (fun ls hl => ?_)
    refine lv_aload_n hx hb dX5_passOne_21 rfl (lv_at hl 1 rfl) ?_
    refine va_get (D := D) (ci := 5) (v := .int (M 16 8)) (C := RX5) (T := TX5) (N := 27) hx hb hts hw5 hown hK hP 0 cM_at0 rfl 21 (by decide) k146 (fun _ h9 => h9) rfl dX5_passOne_22 ?_
    refine lv_if_eq (tgt := 38) hx hb dX5_passOne_25 (by decide) (fun c_9 => ?_) (fun c_9 => ?_)
    · replace hf := if_t c_9 hf
      refine lv_aload_n hx hb dX5_passOne_38 rfl (lv_at hl 1 rfl) ?_
      refine lv_dup hx hb dX5_passOne_39 rfl ?_
      refine va_get (D := D) (ci := 5) (v := .int (M 16 9)) (C := RX5) (T := TX5) (N := 27) hx hb hts hw5 hown hK hP 0 cM_at0 rfl 22 (by decide) k150 (fun _ h9 => h9) rfl dX5_passOne_40 ?_
      refine lv_iconst (v := 1) hx hb dX5_passOne_43 (by decide) ?_
      refine lv_iadd hx hb dX5_passOne_44 ?_
      refine va_put (D := D) (ci := 5) (v := .int ((M 16 9) + (1 : Int32))) (ty := .int) (C := RX5) (T := TX5) (N := 27) hx hb hts hw5 tyX5 tyX5_ok nmX5 hown hK hP hD hS 0 cM_at0 rfl 22 (by decide) k150 (fun _ h9 => h9) rfl (tyX5_ok 22 (by decide)) rfl rfl (Nat.le_of_ble_eq_true rfl) dX5_passOne_45 (fun H locs hP hD hS => ?_)
      obtain ⟨h_10, eh_10, hf⟩ := nq_e hf
      rw [cM_sc0_22, ← eh_10] at hP hD
      refine lv_iload_n hx hb dX5_passOne_48 rfl (lv_at hl 0 rfl) ?_
      exact hend (p1, h_10) H locs _ _ hf hP hS dX5_passOne_49
    · replace hf := if_f c_9 hf
      refine lv_aload_n hx hb dX5_passOne_28 rfl (lv_at hl 1 rfl) ?_
      refine va_get (D := D) (ci := 5) (v := .ref (A 13)) (C := RX5) (T := TX5) (N := 27) hx hb hts hw5 hown hK hP 0 cM_at0 rfl 19 (by decide) k46 (fun _ h9 => h9) rfl dX5_passOne_29 ?_
      refine lv_aload_n hx hb dX5_passOne_32 rfl (lv_at hl 1 rfl) ?_
      refine va_get (D := D) (ci := 5) (v := .int (M 16 9)) (C := RX5) (T := TX5) (N := 27) hx hb hts hw5 hown hK hP 0 cM_at0 rfl 22 (by decide) k150 (fun _ h9 => h9) rfl dX5_passOne_33 ?_
      refine lv_iload_n hx hb dX5_passOne_36 rfl (lv_at hl 2 rfl) ?_
      obtain ⟨c_11, hf⟩ := gi_e hf
      refine va_iast hx hb hK hP hD hS 13 0 cM_at13 rfl c_11 dX5_passOne_37 (fun H locs hP hD hS => ?_)
      obtain ⟨h_12, eh_12, hf⟩ := nq_e hf
      rw [cM_su13, ← eh_12] at hP hD
      refine lv_aload_n hx hb dX5_passOne_38 rfl (lv_at hl 1 rfl) ?_
      refine lv_dup hx hb dX5_passOne_39 rfl ?_
      refine va_get (D := D) (ci := 5) (v := .int (h_12 16 9)) (C := RX5) (T := TX5) (N := 27) hx hb hts hw5 hown hK hP 0 cM_at0 rfl 22 (by decide) k150 (fun _ h9 => h9) rfl dX5_passOne_40 ?_
      refine lv_iconst (v := 1) hx hb dX5_passOne_43 (by decide) ?_
      refine lv_iadd hx hb dX5_passOne_44 ?_
      refine va_put (D := D) (ci := 5) (v := .int ((h_12 16 9) + (1 : Int32))) (ty := .int) (C := RX5) (T := TX5) (N := 27) hx hb hts hw5 tyX5 tyX5_ok nmX5 hown hK hP hD hS 0 cM_at0 rfl 22 (by decide) k150 (fun _ h9 => h9) rfl (tyX5_ok 22 (by decide)) rfl rfl (Nat.le_of_ble_eq_true rfl) dX5_passOne_45 (fun H locs hP hD hS => ?_)
      obtain ⟨h_13, eh_13, hf⟩ := nq_e hf
      rw [cM_sc0_22, ← eh_13] at hP hD
      refine lv_iload_n hx hb dX5_passOne_48 rfl (lv_at hl 0 rfl) ?_
      exact hend (p1, h_13) H locs _ _ hf hP hS dX5_passOne_49

def rm_X5_passesAll : Room := { frames := 1, cells := 0, slots := 0, locals := 22 }
theorem hd_X5_passesAll : yX5_passesAll.cls = RX5 ∧ yX5_passesAll.cls ≠ "java/lang/invoke/MethodHandle" ∧ yX5_passesAll.cls ≠ "java/lang/invoke/VarHandle" ∧ (parseMethodDescriptor yX5_passesAll.desc).map (fun d => d.parameters.length) = some 2 := by decide +kernel
set_option maxRecDepth 100000 in
set_option maxHeartbeats 4000000 in
theorem c_X5_passesAll (l : Launch) (D : va_G) (cI : ClassId) (A : Nat → Nat) (M : St) (p1 : Int32) (p2 : Int32) (r : St) (hf : f_X5_passesAll M p1 p2 = some r) : Ct l yX5_passesAll wsX5_passesAll rm_X5_passesAll D cI (cM cI A M) (cM cI A r) [.ref (A 0), .int p1, .int p2] none := by
  unfold f_X5_passesAll at hf
  refine Ct.ofV (cc := cX5_passesAll) (maxL := 3) (by decide +kernel) rfl (Nat.le_of_ble_eq_true rfl) ?_
  intro p e s m args below meth c AA Q H locs ls hx hb hml hown hts hA hK hP hD hS hl hend0
  have hend : ∀ (r1 : St) (H : Heap) (locs : List Loc) (pc : Nat) (ls : Array Slot), some r1 = some r → va_P D vwCl (cM cI A r1) H → va_S AA s.heap H locs → decode cX5_passesAll pc = .ok (.return_, 1) → W p l e rm_X5_passesAll s m args below meth c H locs 0 0 Q (F0 m pc ls []) := by
    intro r1 H locs pc ls e1 hP hS hd; cases e1; exact hend0 H locs pc ls hP hS hd
  clear hend0
  have hw5 : ∀ w ∈ wsX50, w ∈ wsX5_passesAll := by decide +kernel
  have k13 := hts (.fieldLink RX5 13 "AnchorsForConfessionModel" "heavy" "[I") (by decide +kernel)
  have k16 := hts (.fieldLink RX5 16 "AnchorsForConfessionModel" "loose" "[I") (by decide +kernel)
  have k19 := hts (.fieldLink RX5 19 "AnchorsForConfessionModel" "out" "[I") (by decide +kernel)
  have k22 := hts (.fieldLink RX5 22 "AnchorsForConfessionModel" "kind" "[I") (by decide +kernel)
  have k25 := hts (.fieldLink RX5 25 "AnchorsForConfessionModel" "figure" "[I") (by decide +kernel)
  have k28 := hts (.fieldLink RX5 28 "AnchorsForConfessionModel" "sins" "[I") (by decide +kernel)
  have k31 := hts (.fieldLink RX5 31 "AnchorsForConfessionModel" "aboard" "[I") (by decide +kernel)
  have k58 := hts (.fieldLink RX5 58 "AnchorsForConfessionModel" "ships" "I") (by decide +kernel)
  have k65 := hts (.fieldLink RX5 65 "AnchorsForConfessionModel" "men" "I") (by decide +kernel)
  have k110 := hts (.fieldLink RX5 110 "AnchorsForConfessionModel" "tide" "I") (by decide +kernel)
  have k146 := hts (.fieldLink RX5 146 "AnchorsForConfessionModel" "isKeeping" "Z") (by decide +kernel)
  have k150 := hts (.fieldLink RX5 150 "AnchorsForConfessionModel" "cursor" "I") (by decide +kernel)
  have k160 := hts (.fieldLink RX5 160 "AnchorsForConfessionModel" "heard" "I") (by decide +kernel)
  replace hl : lv_has ls 3 [(0, .ref (A 0)), (1, .int p1), (2, .int p2)] := hl
  refine lv_aload_n hx hb dX5_passesAll_0 rfl (lv_at hl 0 rfl) ?_
  refine lv_bipush (v := 51) hx hb dX5_passesAll_1 (by decide +kernel) ?_
  refine lv_iload_n hx hb dX5_passesAll_3 rfl (lv_at hl 1 rfl) ?_
  refine lv_imul hx hb dX5_passesAll_4 ?_
  refine va_put (D := D) (ci := 5) (v := .int ((51 : Int32) * p1)) (ty := .int) (C := RX5) (T := TX5) (N := 27) hx hb hts hw5 tyX5 tyX5_ok nmX5 hown hK hP hD hS 0 cM_at0 rfl 22 (by decide) k150 (fun _ h9 => h9) rfl (tyX5_ok 22 (by decide)) rfl rfl (Nat.le_of_ble_eq_true rfl) dX5_passesAll_5 (fun H locs hP hD hS => ?_)
  obtain ⟨h_1, eh_1, hf⟩ := nq_e hf
  rw [cM_sc0_22, ← eh_1] at hP hD
  refine lv_aload_n hx hb dX5_passesAll_8 rfl (lv_at hl 0 rfl) ?_
  refine lv_iload_n hx hb dX5_passesAll_9 rfl (lv_at hl 2 rfl) ?_
  obtain ⟨c_2, hf⟩ := gd_e hf
  refine va_put (D := D) (ci := 5) (v := .int p2) (ty := .boolean) (C := RX5) (T := TX5) (N := 27) hx hb hts hw5 tyX5 tyX5_ok nmX5 hown hK hP hD hS 0 cM_at0 rfl 21 (by decide) k146 (fun _ h9 => h9) rfl (tyX5_ok 21 (by decide)) (nar_b c_2) (by rcases c_2 with h9 | h9 <;> rw [h9] <;> decide +kernel) (Nat.le_of_ble_eq_true rfl) dX5_passesAll_10 (fun H locs hP hD hS => ?_)
  obtain ⟨h_3, eh_3, hf⟩ := nq_e hf
  rw [cM_sc0_21, ← eh_3] at hP hD
  refine lv_aload_n hx hb dX5_passesAll_13 rfl (lv_at hl 0 rfl) ?_
  refine lv_aload_n hx hb dX5_passesAll_14 rfl (lv_at hl 0 rfl) ?_
  refine va_get (D := D) (ci := 5) (v := .ref (A 2)) (C := RX5) (T := TX5) (N := 27) hx hb hts hw5 hown hK hP 0 cM_at0 rfl 1 (by decide) k13 (fun _ h9 => h9) rfl dX5_passesAll_15 ?_
  obtain ⟨a_4, ha_4, hf⟩ := bd_e hf
  refine Ct.callV (As := [.ref (A 2)]) (rest := []) (st1 := []) (c_X5_passes_a2 l D cI A h_3 a_4 ha_4) hx hb hml hown hts (cwV 1 hts gX5_passesAll_X5_passes rfl rfl rfl hd_X5_passes ⟨Nat.le_of_ble_eq_true rfl, Nat.le_of_ble_eq_true rfl⟩) (va_recv hK hP (ci := 5) (q0 := 0) rfl cM_at0) (Ln.id rfl) hA hK hP hD hS rfl hl.1 rfl rfl (Nat.le_of_ble_eq_true rfl) dX5_passesAll_18 (fun H locs hP hD hS => ?_)
  replace hP : va_P D vwCl (cM cI A a_4) H := hP
  replace hD : va_D AA (cM cI A a_4) := hD
  refine lv_aload_n hx hb dX5_passesAll_21 rfl (lv_at hl 0 rfl) ?_
  refine lv_aload_n hx hb dX5_passesAll_22 rfl (lv_at hl 0 rfl) ?_
  refine va_get (D := D) (ci := 5) (v := .ref (A 3)) (C := RX5) (T := TX5) (N := 27) hx hb hts hw5 hown hK hP 0 cM_at0 rfl 2 (by decide) k16 (fun _ h9 => h9) rfl dX5_passesAll_23 ?_
  obtain ⟨a_5, ha_5, hf⟩ := bd_e hf
  refine Ct.callV (As := [.ref (A 3)]) (rest := []) (st1 := []) (c_X5_passes_a3 l D cI A a_4 a_5 ha_5) hx hb hml hown hts (cwV 1 hts gX5_passesAll_X5_passes rfl rfl rfl hd_X5_passes ⟨Nat.le_of_ble_eq_true rfl, Nat.le_of_ble_eq_true rfl⟩) (va_recv hK hP (ci := 5) (q0 := 0) rfl cM_at0) (Ln.id rfl) hA hK hP hD hS rfl hl.1 rfl rfl (Nat.le_of_ble_eq_true rfl) dX5_passesAll_26 (fun H locs hP hD hS => ?_)
  replace hP : va_P D vwCl (cM cI A a_5) H := hP
  replace hD : va_D AA (cM cI A a_5) := hD
  refine lv_aload_n hx hb dX5_passesAll_29 rfl (lv_at hl 0 rfl) ?_
  refine lv_aload_n hx hb dX5_passesAll_30 rfl (lv_at hl 0 rfl) ?_
  refine va_get (D := D) (ci := 5) (v := .ref (A 4)) (C := RX5) (T := TX5) (N := 27) hx hb hts hw5 hown hK hP 0 cM_at0 rfl 3 (by decide) k19 (fun _ h9 => h9) rfl dX5_passesAll_31 ?_
  obtain ⟨a_6, ha_6, hf⟩ := bd_e hf
  refine Ct.callV (As := [.ref (A 4)]) (rest := []) (st1 := []) (c_X5_passes_a4 l D cI A a_5 a_6 ha_6) hx hb hml hown hts (cwV 1 hts gX5_passesAll_X5_passes rfl rfl rfl hd_X5_passes ⟨Nat.le_of_ble_eq_true rfl, Nat.le_of_ble_eq_true rfl⟩) (va_recv hK hP (ci := 5) (q0 := 0) rfl cM_at0) (Ln.id rfl) hA hK hP hD hS rfl hl.1 rfl rfl (Nat.le_of_ble_eq_true rfl) dX5_passesAll_34 (fun H locs hP hD hS => ?_)
  replace hP : va_P D vwCl (cM cI A a_6) H := hP
  replace hD : va_D AA (cM cI A a_6) := hD
  refine lv_aload_n hx hb dX5_passesAll_37 rfl (lv_at hl 0 rfl) ?_
  refine lv_aload_n hx hb dX5_passesAll_38 rfl (lv_at hl 0 rfl) ?_
  refine va_get (D := D) (ci := 5) (v := .ref (A 5)) (C := RX5) (T := TX5) (N := 27) hx hb hts hw5 hown hK hP 0 cM_at0 rfl 4 (by decide) k22 (fun _ h9 => h9) rfl dX5_passesAll_39 ?_
  obtain ⟨a_7, ha_7, hf⟩ := bd_e hf
  refine Ct.callV (As := [.ref (A 5)]) (rest := []) (st1 := []) (c_X5_passes_a5 l D cI A a_6 a_7 ha_7) hx hb hml hown hts (cwV 1 hts gX5_passesAll_X5_passes rfl rfl rfl hd_X5_passes ⟨Nat.le_of_ble_eq_true rfl, Nat.le_of_ble_eq_true rfl⟩) (va_recv hK hP (ci := 5) (q0 := 0) rfl cM_at0) (Ln.id rfl) hA hK hP hD hS rfl hl.1 rfl rfl (Nat.le_of_ble_eq_true rfl) dX5_passesAll_42 (fun H locs hP hD hS => ?_)
  replace hP : va_P D vwCl (cM cI A a_7) H := hP
  replace hD : va_D AA (cM cI A a_7) := hD
  refine lv_aload_n hx hb dX5_passesAll_45 rfl (lv_at hl 0 rfl) ?_
  refine lv_aload_n hx hb dX5_passesAll_46 rfl (lv_at hl 0 rfl) ?_
  refine va_get (D := D) (ci := 5) (v := .ref (A 6)) (C := RX5) (T := TX5) (N := 27) hx hb hts hw5 hown hK hP 0 cM_at0 rfl 5 (by decide) k25 (fun _ h9 => h9) rfl dX5_passesAll_47 ?_
  obtain ⟨a_8, ha_8, hf⟩ := bd_e hf
  refine Ct.callV (As := [.ref (A 6)]) (rest := []) (st1 := []) (c_X5_passes_a6 l D cI A a_7 a_8 ha_8) hx hb hml hown hts (cwV 1 hts gX5_passesAll_X5_passes rfl rfl rfl hd_X5_passes ⟨Nat.le_of_ble_eq_true rfl, Nat.le_of_ble_eq_true rfl⟩) (va_recv hK hP (ci := 5) (q0 := 0) rfl cM_at0) (Ln.id rfl) hA hK hP hD hS rfl hl.1 rfl rfl (Nat.le_of_ble_eq_true rfl) dX5_passesAll_50 (fun H locs hP hD hS => ?_)
  replace hP : va_P D vwCl (cM cI A a_8) H := hP
  replace hD : va_D AA (cM cI A a_8) := hD
  refine lv_aload_n hx hb dX5_passesAll_53 rfl (lv_at hl 0 rfl) ?_
  refine lv_aload_n hx hb dX5_passesAll_54 rfl (lv_at hl 0 rfl) ?_
  refine va_get (D := D) (ci := 5) (v := .ref (A 7)) (C := RX5) (T := TX5) (N := 27) hx hb hts hw5 hown hK hP 0 cM_at0 rfl 6 (by decide) k28 (fun _ h9 => h9) rfl dX5_passesAll_55 ?_
  obtain ⟨a_9, ha_9, hf⟩ := bd_e hf
  refine Ct.callV (As := [.ref (A 7)]) (rest := []) (st1 := []) (c_X5_passes_a7 l D cI A a_8 a_9 ha_9) hx hb hml hown hts (cwV 1 hts gX5_passesAll_X5_passes rfl rfl rfl hd_X5_passes ⟨Nat.le_of_ble_eq_true rfl, Nat.le_of_ble_eq_true rfl⟩) (va_recv hK hP (ci := 5) (q0 := 0) rfl cM_at0) (Ln.id rfl) hA hK hP hD hS rfl hl.1 rfl rfl (Nat.le_of_ble_eq_true rfl) dX5_passesAll_58 (fun H locs hP hD hS => ?_)
  replace hP : va_P D vwCl (cM cI A a_9) H := hP
  replace hD : va_D AA (cM cI A a_9) := hD
  refine lv_aload_n hx hb dX5_passesAll_61 rfl (lv_at hl 0 rfl) ?_
  refine lv_aload_n hx hb dX5_passesAll_62 rfl (lv_at hl 0 rfl) ?_
  refine va_get (D := D) (ci := 5) (v := .ref (A 8)) (C := RX5) (T := TX5) (N := 27) hx hb hts hw5 hown hK hP 0 cM_at0 rfl 7 (by decide) k31 (fun _ h9 => h9) rfl dX5_passesAll_63 ?_
  obtain ⟨a_10, ha_10, hf⟩ := bd_e hf
  refine Ct.callV (As := [.ref (A 8)]) (rest := []) (st1 := []) (c_X5_passes_a8 l D cI A a_9 a_10 ha_10) hx hb hml hown hts (cwV 1 hts gX5_passesAll_X5_passes rfl rfl rfl hd_X5_passes ⟨Nat.le_of_ble_eq_true rfl, Nat.le_of_ble_eq_true rfl⟩) (va_recv hK hP (ci := 5) (q0 := 0) rfl cM_at0) (Ln.id rfl) hA hK hP hD hS rfl hl.1 rfl rfl (Nat.le_of_ble_eq_true rfl) dX5_passesAll_66 (fun H locs hP hD hS => ?_)
  replace hP : va_P D vwCl (cM cI A a_10) H := hP
  replace hD : va_D AA (cM cI A a_10) := hD
  refine lv_aload_n hx hb dX5_passesAll_69 rfl (lv_at hl 0 rfl) ?_
  refine lv_aload_n hx hb dX5_passesAll_70 rfl (lv_at hl 0 rfl) ?_
  refine lv_aload_n hx hb dX5_passesAll_71 rfl (lv_at hl 0 rfl) ?_
  refine va_get (D := D) (ci := 5) (v := .int (a_10 16 0)) (C := RX5) (T := TX5) (N := 27) hx hb hts hw5 hown hK hP 0 cM_at0 rfl 8 (by decide) k58 (fun _ h9 => h9) rfl dX5_passesAll_72 ?_
  obtain ⟨a_11, ha_11, hf⟩ := bd_e hf
  refine Ct.callV (As := [.int (a_10 16 0)]) (rest := [.ref (A 0)]) (st1 := [.int a_11.1, .ref (A 0)]) (c_X5_passOne l D cI A a_10 (a_10 16 0) a_11 ha_11) hx hb hml hown hts (cwV 1 hts gX5_passesAll_X5_passOne rfl rfl rfl hd_X5_passOne ⟨Nat.le_of_ble_eq_true rfl, Nat.le_of_ble_eq_true rfl⟩) (va_recv hK hP (ci := 5) (q0 := 0) rfl cM_at0) (Ln.id rfl) hA hK hP hD hS rfl hl.1 rfl rfl (Nat.le_of_ble_eq_true rfl) dX5_passesAll_75 (fun H locs hP hD hS => ?_)
  replace hP : va_P D vwCl (cM cI A a_11.2) H := hP
  replace hD : va_D AA (cM cI A a_11.2) := hD
  refine va_put (D := D) (ci := 5) (v := .int a_11.1) (ty := .int) (C := RX5) (T := TX5) (N := 27) hx hb hts hw5 tyX5 tyX5_ok nmX5 hown hK hP hD hS 0 cM_at0 rfl 8 (by decide) k58 (fun _ h9 => h9) rfl (tyX5_ok 8 (by decide)) rfl rfl (Nat.le_of_ble_eq_true rfl) dX5_passesAll_78 (fun H locs hP hD hS => ?_)
  obtain ⟨h_12, eh_12, hf⟩ := nq_e hf
  rw [cM_sc0_8, ← eh_12] at hP hD
  refine lv_aload_n hx hb dX5_passesAll_81 rfl (lv_at hl 0 rfl) ?_
  refine lv_aload_n hx hb dX5_passesAll_82 rfl (lv_at hl 0 rfl) ?_
  refine lv_aload_n hx hb dX5_passesAll_83 rfl (lv_at hl 0 rfl) ?_
  refine va_get (D := D) (ci := 5) (v := .int (h_12 16 1)) (C := RX5) (T := TX5) (N := 27) hx hb hts hw5 hown hK hP 0 cM_at0 rfl 9 (by decide) k65 (fun _ h9 => h9) rfl dX5_passesAll_84 ?_
  obtain ⟨a_13, ha_13, hf⟩ := bd_e hf
  refine Ct.callV (As := [.int (h_12 16 1)]) (rest := [.ref (A 0)]) (st1 := [.int a_13.1, .ref (A 0)]) (c_X5_passOne l D cI A h_12 (h_12 16 1) a_13 ha_13) hx hb hml hown hts (cwV 1 hts gX5_passesAll_X5_passOne rfl rfl rfl hd_X5_passOne ⟨Nat.le_of_ble_eq_true rfl, Nat.le_of_ble_eq_true rfl⟩) (va_recv hK hP (ci := 5) (q0 := 0) rfl cM_at0) (Ln.id rfl) hA hK hP hD hS rfl hl.1 rfl rfl (Nat.le_of_ble_eq_true rfl) dX5_passesAll_87 (fun H locs hP hD hS => ?_)
  replace hP : va_P D vwCl (cM cI A a_13.2) H := hP
  replace hD : va_D AA (cM cI A a_13.2) := hD
  refine va_put (D := D) (ci := 5) (v := .int a_13.1) (ty := .int) (C := RX5) (T := TX5) (N := 27) hx hb hts hw5 tyX5 tyX5_ok nmX5 hown hK hP hD hS 0 cM_at0 rfl 9 (by decide) k65 (fun _ h9 => h9) rfl (tyX5_ok 9 (by decide)) rfl rfl (Nat.le_of_ble_eq_true rfl) dX5_passesAll_90 (fun H locs hP hD hS => ?_)
  obtain ⟨h_14, eh_14, hf⟩ := nq_e hf
  rw [cM_sc0_9, ← eh_14] at hP hD
  refine lv_aload_n hx hb dX5_passesAll_93 rfl (lv_at hl 0 rfl) ?_
  refine lv_aload_n hx hb dX5_passesAll_94 rfl (lv_at hl 0 rfl) ?_
  refine lv_aload_n hx hb dX5_passesAll_95 rfl (lv_at hl 0 rfl) ?_
  refine va_get (D := D) (ci := 5) (v := .int (h_14 16 2)) (C := RX5) (T := TX5) (N := 27) hx hb hts hw5 hown hK hP 0 cM_at0 rfl 10 (by decide) k160 (fun _ h9 => h9) rfl dX5_passesAll_96 ?_
  obtain ⟨a_15, ha_15, hf⟩ := bd_e hf
  refine Ct.callV (As := [.int (h_14 16 2)]) (rest := [.ref (A 0)]) (st1 := [.int a_15.1, .ref (A 0)]) (c_X5_passOne l D cI A h_14 (h_14 16 2) a_15 ha_15) hx hb hml hown hts (cwV 1 hts gX5_passesAll_X5_passOne rfl rfl rfl hd_X5_passOne ⟨Nat.le_of_ble_eq_true rfl, Nat.le_of_ble_eq_true rfl⟩) (va_recv hK hP (ci := 5) (q0 := 0) rfl cM_at0) (Ln.id rfl) hA hK hP hD hS rfl hl.1 rfl rfl (Nat.le_of_ble_eq_true rfl) dX5_passesAll_99 (fun H locs hP hD hS => ?_)
  replace hP : va_P D vwCl (cM cI A a_15.2) H := hP
  replace hD : va_D AA (cM cI A a_15.2) := hD
  refine va_put (D := D) (ci := 5) (v := .int a_15.1) (ty := .int) (C := RX5) (T := TX5) (N := 27) hx hb hts hw5 tyX5 tyX5_ok nmX5 hown hK hP hD hS 0 cM_at0 rfl 10 (by decide) k160 (fun _ h9 => h9) rfl (tyX5_ok 10 (by decide)) rfl rfl (Nat.le_of_ble_eq_true rfl) dX5_passesAll_102 (fun H locs hP hD hS => ?_)
  obtain ⟨h_16, eh_16, hf⟩ := nq_e hf
  rw [cM_sc0_10, ← eh_16] at hP hD
  refine lv_aload_n hx hb dX5_passesAll_105 rfl (lv_at hl 0 rfl) ?_
  refine lv_aload_n hx hb dX5_passesAll_106 rfl (lv_at hl 0 rfl) ?_
  refine lv_aload_n hx hb dX5_passesAll_107 rfl (lv_at hl 0 rfl) ?_
  refine va_get (D := D) (ci := 5) (v := .int (h_16 16 3)) (C := RX5) (T := TX5) (N := 27) hx hb hts hw5 hown hK hP 0 cM_at0 rfl 11 (by decide) k110 (fun _ h9 => h9) rfl dX5_passesAll_108 ?_
  obtain ⟨a_17, ha_17, hf⟩ := bd_e hf
  refine Ct.callV (As := [.int (h_16 16 3)]) (rest := [.ref (A 0)]) (st1 := [.int a_17.1, .ref (A 0)]) (c_X5_passOne l D cI A h_16 (h_16 16 3) a_17 ha_17) hx hb hml hown hts (cwV 1 hts gX5_passesAll_X5_passOne rfl rfl rfl hd_X5_passOne ⟨Nat.le_of_ble_eq_true rfl, Nat.le_of_ble_eq_true rfl⟩) (va_recv hK hP (ci := 5) (q0 := 0) rfl cM_at0) (Ln.id rfl) hA hK hP hD hS rfl hl.1 rfl rfl (Nat.le_of_ble_eq_true rfl) dX5_passesAll_111 (fun H locs hP hD hS => ?_)
  replace hP : va_P D vwCl (cM cI A a_17.2) H := hP
  replace hD : va_D AA (cM cI A a_17.2) := hD
  refine va_put (D := D) (ci := 5) (v := .int a_17.1) (ty := .int) (C := RX5) (T := TX5) (N := 27) hx hb hts hw5 tyX5 tyX5_ok nmX5 hown hK hP hD hS 0 cM_at0 rfl 11 (by decide) k110 (fun _ h9 => h9) rfl (tyX5_ok 11 (by decide)) rfl rfl (Nat.le_of_ble_eq_true rfl) dX5_passesAll_114 (fun H locs hP hD hS => ?_)
  obtain ⟨h_18, eh_18, hf⟩ := nq_e hf
  rw [cM_sc0_11, ← eh_18] at hP hD
  exact hend h_18 H locs _ _ hf hP hS dX5_passesAll_117

def rm_X5_harbour : Room := { frames := 5, cells := 0, slots := 0, locals := 110 }
theorem hd_X5_harbour : yX5_harbour.cls = RX5 ∧ yX5_harbour.cls ≠ "java/lang/invoke/MethodHandle" ∧ yX5_harbour.cls ≠ "java/lang/invoke/VarHandle" ∧ (parseMethodDescriptor yX5_harbour.desc).map (fun d => d.parameters.length) = some 0 := by decide +kernel
set_option maxRecDepth 100000 in
set_option maxHeartbeats 4000000 in
theorem c_X5_harbour (l : Launch) (D : va_G) (cI : ClassId) (A : Nat → Nat) (M : St) (r : Int32 × St) (hf : f_X5_harbour M = some r) : Ct l yX5_harbour wsX5_harbour rm_X5_harbour D cI (cM cI A M) (cM cI A r.2) [.ref (A 0)] (some (.int r.1)) := by
  unfold f_X5_harbour at hf
  refine Ct.ofI (cc := cX5_harbour) (maxL := 3) (by decide +kernel) rfl (Nat.le_of_ble_eq_true rfl) ?_
  intro p e s m args below meth c AA Q H locs ls hx hb hml hown hts hA hK hP hD hS hl hend0
  have hend : ∀ (r1 : Int32 × St) (H : Heap) (locs : List Loc) (pc : Nat) (ls : Array Slot), some r1 = some r → va_P D vwCl (cM cI A r1.2) H → va_S AA s.heap H locs → decode cX5_harbour pc = .ok (.ireturn, 1) → W p l e rm_X5_harbour s m args below meth c H locs 0 0 Q (F0 m pc ls [.int r1.1]) := by
    intro r1 H locs pc ls e1 hP hS hd; cases e1; exact hend0 H locs pc ls hP hS hd
  clear hend0
  have hw5 : ∀ w ∈ wsX50, w ∈ wsX5_harbour := by decide +kernel
  have k40 := hts (.fieldLink RX5 40 "AnchorsForConfessionModel" "letterAt" "[I") (by decide +kernel)
  have k72 := hts (.fieldLink RX5 72 "AnchorsForConfessionModel" "taped" "I") (by decide +kernel)
  have k79 := hts (.fieldLink RX5 79 "AnchorsForConfessionModel" "at" "I") (by decide +kernel)
  have k101 := hts (.fieldLink RX5 101 "AnchorsForConfessionModel" "statements" "I") (by decide +kernel)
  replace hl : lv_has ls 3 [(0, .ref (A 0))] := hl
  refine lv_aload_n hx hb dX5_harbour_0 rfl (lv_at hl 0 rfl) ?_
  refine lv_iconst (v := 0) hx hb dX5_harbour_1 (by decide) ?_
  refine va_put (D := D) (ci := 5) (v := .int (0 : Int32)) (ty := .int) (C := RX5) (T := TX5) (N := 27) hx hb hts hw5 tyX5 tyX5_ok nmX5 hown hK hP hD hS 0 cM_at0 rfl 17 (by decide) k79 (fun _ h9 => h9) rfl (tyX5_ok 17 (by decide)) rfl rfl (Nat.le_of_ble_eq_true rfl) dX5_harbour_2 (fun H locs hP hD hS => ?_)
  obtain ⟨h_1, eh_1, hf⟩ := nq_e hf
  rw [cM_sc0_17, ← eh_1] at hP hD
  refine lv_aload_n hx hb dX5_harbour_5 rfl (lv_at hl 0 rfl) ?_
  refine lv_iconst (v := 0) hx hb dX5_harbour_6 (by decide) ?_
  refine va_put (D := D) (ci := 5) (v := .int (0 : Int32)) (ty := .int) (C := RX5) (T := TX5) (N := 27) hx hb hts hw5 tyX5 tyX5_ok nmX5 hown hK hP hD hS 0 cM_at0 rfl 18 (by decide) k101 (fun _ h9 => h9) rfl (tyX5_ok 18 (by decide)) rfl rfl (Nat.le_of_ble_eq_true rfl) dX5_harbour_7 (fun H locs hP hD hS => ?_)
  obtain ⟨h_2, eh_2, hf⟩ := nq_e hf
  rw [cM_sc0_18, ← eh_2] at hP hD
  refine lv_iconst (v := 1) hx hb dX5_harbour_10 (by decide) ?_
  refine lv_istore_n (lv' := [(1, .int (1 : Int32)), (0, .ref (A 0))]) hx hb dX5_harbour_11 rfl hl (by decide) rfl (fun ls hl => ?_)
  refine lp_ind (P := fun (q12 : Int32 × St) => ∀ (H : Heap) (locs : List Loc) (ls : Array Slot), va_P D vwCl (cM cI A q12.2) H → va_D AA (cM cI A q12.2) → va_S AA s.heap H locs → lv_has ls 3 [(0, .ref (A 0)), (1, .int q12.1)] → W p l e rm_X5_harbour s m args below meth c H locs 0 0 Q (F0 m 12 ls [])) hf ?_ H locs ls hP hD hS (lv_sub hl [1, 0] rfl)
  clear hf hP hD hS hl
  intro nx12 ih12 q12 hf H locs ls hP hD hS hl
  refine lv_iload_n hx hb dX5_harbour_12 rfl (lv_at hl 1 rfl) ?_
  refine lv_if_eq (tgt := 60) hx hb dX5_harbour_13 (by decide) (fun c_3 => ?_) (fun c_3 => ?_)
  · replace hf := if_t c_3 hf
    refine lv_aload_n hx hb dX5_harbour_60 rfl (lv_at hl 0 rfl) ?_
    refine lv_iconst (v := 0) hx hb dX5_harbour_61 (by decide) ?_
    refine va_put (D := D) (ci := 5) (v := .int (0 : Int32)) (ty := .int) (C := RX5) (T := TX5) (N := 27) hx hb hts hw5 tyX5 tyX5_ok nmX5 hown hK hP hD hS 0 cM_at0 rfl 16 (by decide) k72 (fun _ h9 => h9) rfl (tyX5_ok 16 (by decide)) rfl rfl (Nat.le_of_ble_eq_true rfl) dX5_harbour_62 (fun H locs hP hD hS => ?_)
    obtain ⟨h_4, eh_4, hf⟩ := nq_e hf
    rw [cM_sc0_16, ← eh_4] at hP hD
    refine lv_iload_n hx hb dX5_harbour_65 rfl (lv_at hl 1 rfl) ?_
    refine lv_if_ne (tgt := 78) hx hb dX5_harbour_66 (by decide) (fun c_5 => ?_) (fun c_5 => ?_)
    · replace hf := if_f c_5 hf
      refine lv_aload_n hx hb dX5_harbour_78 rfl (lv_at hl 0 rfl) ?_
      refine lv_iconst (v := 1) hx hb dX5_harbour_79 (by decide) ?_
      refine lv_iconst (v := 1) hx hb dX5_harbour_80 (by decide) ?_
      obtain ⟨a_6, ha_6, hf⟩ := bd_e hf
      refine Ct.callV (As := [.int (1 : Int32), .int (1 : Int32)]) (rest := []) (st1 := []) (c_X5_passesAll l D cI A h_4 (1 : Int32) (1 : Int32) a_6 ha_6) hx hb hml hown hts (cwV 2 hts gX5_harbour_X5_passesAll rfl rfl rfl hd_X5_passesAll ⟨Nat.le_of_ble_eq_true rfl, Nat.le_of_ble_eq_true rfl⟩) (va_recv hK hP (ci := 5) (q0 := 0) rfl cM_at0) (Ln.id rfl) hA hK hP hD hS rfl hl.1 rfl rfl (Nat.le_of_ble_eq_true rfl) dX5_harbour_81 (fun H locs hP hD hS => ?_)
      replace hP : va_P D vwCl (cM cI A a_6) H := hP
      replace hD : va_D AA (cM cI A a_6) := hD
      refine lv_iconst (v := 0) hx hb dX5_harbour_84 (by decide) ?_
      refine lv_istore_n (lv' := [(2, .int (0 : Int32)), (0, .ref (A 0)), (1, .int q12.1)]) hx hb dX5_harbour_85 rfl hl (by decide) rfl (fun ls hl => ?_)
      refine lp_ind (P := fun (q86 : Int32 × St) => ∀ (H : Heap) (locs : List Loc) (ls : Array Slot), va_P D vwCl (cM cI A q86.2) H → va_D AA (cM cI A q86.2) → va_S AA s.heap H locs → lv_has ls 3 [(0, .ref (A 0)), (2, .int q86.1)] → W p l e rm_X5_harbour s m args below meth c H locs 0 0 Q (F0 m 86 ls [])) hf ?_ H locs ls hP hD hS (lv_sub hl [1, 0] rfl)
      clear hf hP hD hS hl
      intro nx86 ih86 q86 hf H locs ls hP hD hS hl
      refine lv_iload_n hx hb dX5_harbour_86 rfl (lv_at hl 1 rfl) ?_
      refine lv_aload_n hx hb dX5_harbour_87 rfl (lv_at hl 0 rfl) ?_
      refine va_get (D := D) (ci := 5) (v := .int (q86.2 16 6)) (C := RX5) (T := TX5) (N := 27) hx hb hts hw5 hown hK hP 0 cM_at0 rfl 18 (by decide) k101 (fun _ h9 => h9) rfl dX5_harbour_88 ?_
      refine lv_icmp_ge (tgt := 128) hx hb dX5_harbour_91 (by decide) (fun c_7 => ?_) (fun c_7 => ?_)
      · replace hf := if_t c_7 hf
        refine lv_aload_n hx hb dX5_harbour_128 rfl (lv_at hl 0 rfl) ?_
        refine va_get (D := D) (ci := 5) (v := .int (q86.2 16 6)) (C := RX5) (T := TX5) (N := 27) hx hb hts hw5 hown hK hP 0 cM_at0 rfl 18 (by decide) k101 (fun _ h9 => h9) rfl dX5_harbour_129 ?_
        exact hend ((q86.2 16 6), q86.2) H locs _ _ hf hP hS dX5_harbour_132
      · replace hf := if_f c_7 hf
        refine lv_aload_n hx hb dX5_harbour_94 rfl (lv_at hl 0 rfl) ?_
        refine lv_iload_n hx hb dX5_harbour_95 rfl (lv_at hl 1 rfl) ?_
        obtain ⟨a_8, ha_8, hf⟩ := bd_e hf
        refine Ct.callV (As := [.int q86.1]) (rest := []) (st1 := [.int a_8.1]) (c_X5_comes l D cI A q86.2 q86.1 a_8 ha_8) hx hb hml hown hts (cwV 1 hts gX5_harbour_X5_comes rfl rfl rfl hd_X5_comes ⟨Nat.le_of_ble_eq_true rfl, Nat.le_of_ble_eq_true rfl⟩) (va_recv hK hP (ci := 5) (q0 := 0) rfl cM_at0) (Ln.id rfl) hA hK hP hD hS rfl hl.1 rfl rfl (Nat.le_of_ble_eq_true rfl) dX5_harbour_96 (fun H locs hP hD hS => ?_)
        replace hP : va_P D vwCl (cM cI A a_8.2) H := hP
        replace hD : va_D AA (cM cI A a_8.2) := hD
        refine lv_if_eq (tgt := 105) hx hb dX5_harbour_99 (by decide) (fun c_9 => ?_) (fun c_9 => ?_)
        · replace hf := if_t c_9 hf
          refine lv_aload_n hx hb dX5_harbour_105 rfl (lv_at hl 0 rfl) ?_
          refine lv_iconst (v := 1) hx hb dX5_harbour_106 (by decide) ?_
          refine lv_iconst (v := 0) hx hb dX5_harbour_107 (by decide) ?_
          obtain ⟨a_10, ha_10, hf⟩ := bd_e hf
          refine Ct.callV (As := [.int (1 : Int32), .int (0 : Int32)]) (rest := []) (st1 := []) (c_X5_passesAll l D cI A a_8.2 (1 : Int32) (0 : Int32) a_10 ha_10) hx hb hml hown hts (cwV 2 hts gX5_harbour_X5_passesAll rfl rfl rfl hd_X5_passesAll ⟨Nat.le_of_ble_eq_true rfl, Nat.le_of_ble_eq_true rfl⟩) (va_recv hK hP (ci := 5) (q0 := 0) rfl cM_at0) (Ln.id rfl) hA hK hP hD hS rfl hl.1 rfl rfl (Nat.le_of_ble_eq_true rfl) dX5_harbour_108 (fun H locs hP hD hS => ?_)
          replace hP : va_P D vwCl (cM cI A a_10) H := hP
          replace hD : va_D AA (cM cI A a_10) := hD
          refine lv_sipush (v := -2000) hx hb dX5_harbour_111 (by decide +kernel) ?_
          refine lv_aload_n hx hb dX5_harbour_114 rfl (lv_at hl 0 rfl) ?_
          refine va_get (D := D) (ci := 5) (v := .ref (A 11)) (C := RX5) (T := TX5) (N := 27) hx hb hts hw5 hown hK hP 0 cM_at0 rfl 14 (by decide) k40 (fun _ h9 => h9) rfl dX5_harbour_115 ?_
          refine lv_iload_n hx hb dX5_harbour_118 rfl (lv_at hl 1 rfl) ?_
          obtain ⟨c_11, hf⟩ := gi_e hf
          refine va_iald hx hb hK hP 11 0 cM_at11 rfl c_11 dX5_harbour_119 ?_
          refine lv_isub hx hb dX5_harbour_120 ?_
          exact hend (((-2000 : Int32) - (a_10 10 (q86.1).toNatClampNeg)), a_10) H locs _ _ hf hP hS dX5_harbour_121
        · replace hf := if_f c_9 hf
          refine lv_goto (tgt := 122) hx hb dX5_harbour_102 (by decide) ?_
          obtain ⟨v_12, ev_12, hf⟩ := nq_e hf
          refine lv_iinc (v := v_12) (lv' := [(2, .int v_12), (0, .ref (A 0))]) hx hb dX5_harbour_122 hl (k := 1) rfl (by rw [ev_12]; rfl) (by decide) rfl (fun ls hl => ?_)
          refine lv_goto (tgt := 86) hx hb dX5_harbour_125 (by decide) ?_
          exact ih86 (v_12, a_8.2) hf H locs ls hP hD hS (lv_sub hl [1, 0] rfl)
    · replace hf := if_t c_5 hf
      refine lv_sipush (v := -1000) hx hb dX5_harbour_69 (by decide +kernel) ?_
      refine lv_aload_n hx hb dX5_harbour_72 rfl (lv_at hl 0 rfl) ?_
      refine va_get (D := D) (ci := 5) (v := .int (h_4 16 5)) (C := RX5) (T := TX5) (N := 27) hx hb hts hw5 hown hK hP 0 cM_at0 rfl 17 (by decide) k79 (fun _ h9 => h9) rfl dX5_harbour_73 ?_
      refine lv_isub hx hb dX5_harbour_76 ?_
      exact hend (((-1000 : Int32) - (h_4 16 5)), h_4) H locs _ _ hf hP hS dX5_harbour_77
  · replace hf := if_f c_3 hf
    refine lv_aload_n hx hb dX5_harbour_16 rfl (lv_at hl 0 rfl) ?_
    refine va_get (D := D) (ci := 5) (v := .int (q12.2 16 5)) (C := RX5) (T := TX5) (N := 27) hx hb hts hw5 hown hK hP 0 cM_at0 rfl 17 (by decide) k79 (fun _ h9 => h9) rfl dX5_harbour_17 ?_
    refine lv_aload_n hx hb dX5_harbour_20 rfl (lv_at hl 0 rfl) ?_
    refine va_get (D := D) (ci := 5) (v := .int (q12.2 16 4)) (C := RX5) (T := TX5) (N := 27) hx hb hts hw5 hown hK hP 0 cM_at0 rfl 16 (by decide) k72 (fun _ h9 => h9) rfl dX5_harbour_21 ?_
    refine lv_icmp_lt (tgt := 34) hx hb dX5_harbour_24 (by decide) (fun c_13 => ?_) (fun c_13 => ?_)
    · replace hf := if_t c_13 hf
      refine lv_aload_n hx hb dX5_harbour_34 rfl (lv_at hl 0 rfl) ?_
      obtain ⟨a_14, ha_14, hf⟩ := bd_e hf
      refine Ct.callV (As := []) (rest := []) (st1 := [.int a_14.1]) (c_X5_statement l D cI A q12.2 a_14 ha_14) hx hb hml hown hts (cwV 0 hts gX5_harbour_X5_statement rfl rfl rfl hd_X5_statement ⟨Nat.le_of_ble_eq_true rfl, Nat.le_of_ble_eq_true rfl⟩) (va_recv hK hP (ci := 5) (q0 := 0) rfl cM_at0) (Ln.id rfl) hA hK hP hD hS rfl hl.1 rfl rfl (Nat.le_of_ble_eq_true rfl) dX5_harbour_35 (fun H locs hP hD hS => ?_)
      replace hP : va_P D vwCl (cM cI A a_14.2) H := hP
      replace hD : va_D AA (cM cI A a_14.2) := hD
      refine lv_istore_n (lv' := [(1, .int a_14.1), (0, .ref (A 0))]) hx hb dX5_harbour_38 rfl hl (by decide) rfl (fun ls hl => ?_)
      refine lv_aload_n hx hb dX5_harbour_39 rfl (lv_at hl 1 rfl) ?_
      refine lv_dup hx hb dX5_harbour_40 rfl ?_
      refine va_get (D := D) (ci := 5) (v := .int (a_14.2 16 6)) (C := RX5) (T := TX5) (N := 27) hx hb hts hw5 hown hK hP 0 cM_at0 rfl 18 (by decide) k101 (fun _ h9 => h9) rfl dX5_harbour_41 ?_
      refine lv_iload_n hx hb dX5_harbour_44 rfl (lv_at hl 0 rfl) ?_
      refine lv_if_eq (tgt := 52) hx hb dX5_harbour_45 (by decide) (fun c_15 => ?_) (fun c_15 => ?_)
      · replace hf := if_t c_15 hf
        refine lv_iconst (v := 0) hx hb dX5_harbour_52 (by decide) ?_
        refine lv_iadd hx hb dX5_harbour_53 ?_
        refine va_put (D := D) (ci := 5) (v := .int ((a_14.2 16 6) + (0 : Int32))) (ty := .int) (C := RX5) (T := TX5) (N := 27) hx hb hts hw5 tyX5 tyX5_ok nmX5 hown hK hP hD hS 0 cM_at0 rfl 18 (by decide) k101 (fun _ h9 => h9) rfl (tyX5_ok 18 (by decide)) rfl rfl (Nat.le_of_ble_eq_true rfl) dX5_harbour_54 (fun H locs hP hD hS => ?_)
        obtain ⟨h_16, eh_16, hf⟩ := nq_e hf
        rw [cM_sc0_18, ← eh_16] at hP hD
        refine lv_goto (tgt := 12) hx hb dX5_harbour_57 (by decide) ?_
        exact ih12 (a_14.1, h_16) hf H locs ls hP hD hS (lv_sub hl [1, 0] rfl)
      · replace hf := if_f c_15 hf
        refine lv_iconst (v := 1) hx hb dX5_harbour_48 (by decide) ?_
        refine lv_goto (tgt := 53) hx hb dX5_harbour_49 (by decide) ?_
        refine lv_iadd hx hb dX5_harbour_53 ?_
        refine va_put (D := D) (ci := 5) (v := .int ((a_14.2 16 6) + (1 : Int32))) (ty := .int) (C := RX5) (T := TX5) (N := 27) hx hb hts hw5 tyX5 tyX5_ok nmX5 hown hK hP hD hS 0 cM_at0 rfl 18 (by decide) k101 (fun _ h9 => h9) rfl (tyX5_ok 18 (by decide)) rfl rfl (Nat.le_of_ble_eq_true rfl) dX5_harbour_54 (fun H locs hP hD hS => ?_)
        obtain ⟨h_17, eh_17, hf⟩ := nq_e hf
        rw [cM_sc0_18, ← eh_17] at hP hD
        refine lv_goto (tgt := 12) hx hb dX5_harbour_57 (by decide) ?_
        exact ih12 (a_14.1, h_17) hf H locs ls hP hD hS (lv_sub hl [1, 0] rfl)
    · replace hf := if_f c_13 hf
      refine lv_aload_n hx hb dX5_harbour_27 rfl (lv_at hl 0 rfl) ?_
      refine va_get (D := D) (ci := 5) (v := .int (q12.2 16 6)) (C := RX5) (T := TX5) (N := 27) hx hb hts hw5 hown hK hP 0 cM_at0 rfl 18 (by decide) k101 (fun _ h9 => h9) rfl dX5_harbour_28 ?_
      refine lv_if_ne (tgt := 60) hx hb dX5_harbour_31 (by decide) (fun c_18 => ?_) (fun c_18 => ?_)
      · replace hf := if_f c_18 hf
        refine lv_aload_n hx hb dX5_harbour_60 rfl (lv_at hl 0 rfl) ?_
        refine lv_iconst (v := 0) hx hb dX5_harbour_61 (by decide) ?_
        refine va_put (D := D) (ci := 5) (v := .int (0 : Int32)) (ty := .int) (C := RX5) (T := TX5) (N := 27) hx hb hts hw5 tyX5 tyX5_ok nmX5 hown hK hP hD hS 0 cM_at0 rfl 16 (by decide) k72 (fun _ h9 => h9) rfl (tyX5_ok 16 (by decide)) rfl rfl (Nat.le_of_ble_eq_true rfl) dX5_harbour_62 (fun H locs hP hD hS => ?_)
        obtain ⟨h_19, eh_19, hf⟩ := nq_e hf
        rw [cM_sc0_16, ← eh_19] at hP hD
        refine lv_iload_n hx hb dX5_harbour_65 rfl (lv_at hl 1 rfl) ?_
        refine lv_if_ne (tgt := 78) hx hb dX5_harbour_66 (by decide) (fun c_20 => ?_) (fun c_20 => ?_)
        · replace hf := if_f c_20 hf
          refine lv_aload_n hx hb dX5_harbour_78 rfl (lv_at hl 0 rfl) ?_
          refine lv_iconst (v := 1) hx hb dX5_harbour_79 (by decide) ?_
          refine lv_iconst (v := 1) hx hb dX5_harbour_80 (by decide) ?_
          obtain ⟨a_21, ha_21, hf⟩ := bd_e hf
          refine Ct.callV (As := [.int (1 : Int32), .int (1 : Int32)]) (rest := []) (st1 := []) (c_X5_passesAll l D cI A h_19 (1 : Int32) (1 : Int32) a_21 ha_21) hx hb hml hown hts (cwV 2 hts gX5_harbour_X5_passesAll rfl rfl rfl hd_X5_passesAll ⟨Nat.le_of_ble_eq_true rfl, Nat.le_of_ble_eq_true rfl⟩) (va_recv hK hP (ci := 5) (q0 := 0) rfl cM_at0) (Ln.id rfl) hA hK hP hD hS rfl hl.1 rfl rfl (Nat.le_of_ble_eq_true rfl) dX5_harbour_81 (fun H locs hP hD hS => ?_)
          replace hP : va_P D vwCl (cM cI A a_21) H := hP
          replace hD : va_D AA (cM cI A a_21) := hD
          refine lv_iconst (v := 0) hx hb dX5_harbour_84 (by decide) ?_
          refine lv_istore_n (lv' := [(2, .int (0 : Int32)), (0, .ref (A 0)), (1, .int q12.1)]) hx hb dX5_harbour_85 rfl hl (by decide) rfl (fun ls hl => ?_)
          refine lp_ind (P := fun (q86 : Int32 × St) => ∀ (H : Heap) (locs : List Loc) (ls : Array Slot), va_P D vwCl (cM cI A q86.2) H → va_D AA (cM cI A q86.2) → va_S AA s.heap H locs → lv_has ls 3 [(0, .ref (A 0)), (2, .int q86.1)] → W p l e rm_X5_harbour s m args below meth c H locs 0 0 Q (F0 m 86 ls [])) hf ?_ H locs ls hP hD hS (lv_sub hl [1, 0] rfl)
          clear hf hP hD hS hl
          intro nx86 ih86 q86 hf H locs ls hP hD hS hl
          refine lv_iload_n hx hb dX5_harbour_86 rfl (lv_at hl 1 rfl) ?_
          refine lv_aload_n hx hb dX5_harbour_87 rfl (lv_at hl 0 rfl) ?_
          refine va_get (D := D) (ci := 5) (v := .int (q86.2 16 6)) (C := RX5) (T := TX5) (N := 27) hx hb hts hw5 hown hK hP 0 cM_at0 rfl 18 (by decide) k101 (fun _ h9 => h9) rfl dX5_harbour_88 ?_
          refine lv_icmp_ge (tgt := 128) hx hb dX5_harbour_91 (by decide) (fun c_22 => ?_) (fun c_22 => ?_)
          · replace hf := if_t c_22 hf
            refine lv_aload_n hx hb dX5_harbour_128 rfl (lv_at hl 0 rfl) ?_
            refine va_get (D := D) (ci := 5) (v := .int (q86.2 16 6)) (C := RX5) (T := TX5) (N := 27) hx hb hts hw5 hown hK hP 0 cM_at0 rfl 18 (by decide) k101 (fun _ h9 => h9) rfl dX5_harbour_129 ?_
            exact hend ((q86.2 16 6), q86.2) H locs _ _ hf hP hS dX5_harbour_132
          · replace hf := if_f c_22 hf
            refine lv_aload_n hx hb dX5_harbour_94 rfl (lv_at hl 0 rfl) ?_
            refine lv_iload_n hx hb dX5_harbour_95 rfl (lv_at hl 1 rfl) ?_
            obtain ⟨a_23, ha_23, hf⟩ := bd_e hf
            refine Ct.callV (As := [.int q86.1]) (rest := []) (st1 := [.int a_23.1]) (c_X5_comes l D cI A q86.2 q86.1 a_23 ha_23) hx hb hml hown hts (cwV 1 hts gX5_harbour_X5_comes rfl rfl rfl hd_X5_comes ⟨Nat.le_of_ble_eq_true rfl, Nat.le_of_ble_eq_true rfl⟩) (va_recv hK hP (ci := 5) (q0 := 0) rfl cM_at0) (Ln.id rfl) hA hK hP hD hS rfl hl.1 rfl rfl (Nat.le_of_ble_eq_true rfl) dX5_harbour_96 (fun H locs hP hD hS => ?_)
            replace hP : va_P D vwCl (cM cI A a_23.2) H := hP
            replace hD : va_D AA (cM cI A a_23.2) := hD
            refine lv_if_eq (tgt := 105) hx hb dX5_harbour_99 (by decide) (fun c_24 => ?_) (fun c_24 => ?_)
            · replace hf := if_t c_24 hf
              refine lv_aload_n hx hb dX5_harbour_105 rfl (lv_at hl 0 rfl) ?_
              refine lv_iconst (v := 1) hx hb dX5_harbour_106 (by decide) ?_
              refine lv_iconst (v := 0) hx hb dX5_harbour_107 (by decide) ?_
              obtain ⟨a_25, ha_25, hf⟩ := bd_e hf
              refine Ct.callV (As := [.int (1 : Int32), .int (0 : Int32)]) (rest := []) (st1 := []) (c_X5_passesAll l D cI A a_23.2 (1 : Int32) (0 : Int32) a_25 ha_25) hx hb hml hown hts (cwV 2 hts gX5_harbour_X5_passesAll rfl rfl rfl hd_X5_passesAll ⟨Nat.le_of_ble_eq_true rfl, Nat.le_of_ble_eq_true rfl⟩) (va_recv hK hP (ci := 5) (q0 := 0) rfl cM_at0) (Ln.id rfl) hA hK hP hD hS rfl hl.1 rfl rfl (Nat.le_of_ble_eq_true rfl) dX5_harbour_108 (fun H locs hP hD hS => ?_)
              replace hP : va_P D vwCl (cM cI A a_25) H := hP
              replace hD : va_D AA (cM cI A a_25) := hD
              refine lv_sipush (v := -2000) hx hb dX5_harbour_111 (by decide +kernel) ?_
              refine lv_aload_n hx hb dX5_harbour_114 rfl (lv_at hl 0 rfl) ?_
              refine va_get (D := D) (ci := 5) (v := .ref (A 11)) (C := RX5) (T := TX5) (N := 27) hx hb hts hw5 hown hK hP 0 cM_at0 rfl 14 (by decide) k40 (fun _ h9 => h9) rfl dX5_harbour_115 ?_
              refine lv_iload_n hx hb dX5_harbour_118 rfl (lv_at hl 1 rfl) ?_
              obtain ⟨c_26, hf⟩ := gi_e hf
              refine va_iald hx hb hK hP 11 0 cM_at11 rfl c_26 dX5_harbour_119 ?_
              refine lv_isub hx hb dX5_harbour_120 ?_
              exact hend (((-2000 : Int32) - (a_25 10 (q86.1).toNatClampNeg)), a_25) H locs _ _ hf hP hS dX5_harbour_121
            · replace hf := if_f c_24 hf
              refine lv_goto (tgt := 122) hx hb dX5_harbour_102 (by decide) ?_
              obtain ⟨v_27, ev_27, hf⟩ := nq_e hf
              refine lv_iinc (v := v_27) (lv' := [(2, .int v_27), (0, .ref (A 0))]) hx hb dX5_harbour_122 hl (k := 1) rfl (by rw [ev_27]; rfl) (by decide) rfl (fun ls hl => ?_)
              refine lv_goto (tgt := 86) hx hb dX5_harbour_125 (by decide) ?_
              exact ih86 (v_27, a_23.2) hf H locs ls hP hD hS (lv_sub hl [1, 0] rfl)
        · replace hf := if_t c_20 hf
          refine lv_sipush (v := -1000) hx hb dX5_harbour_69 (by decide +kernel) ?_
          refine lv_aload_n hx hb dX5_harbour_72 rfl (lv_at hl 0 rfl) ?_
          refine va_get (D := D) (ci := 5) (v := .int (h_19 16 5)) (C := RX5) (T := TX5) (N := 27) hx hb hts hw5 hown hK hP 0 cM_at0 rfl 17 (by decide) k79 (fun _ h9 => h9) rfl dX5_harbour_73 ?_
          refine lv_isub hx hb dX5_harbour_76 ?_
          exact hend (((-1000 : Int32) - (h_19 16 5)), h_19) H locs _ _ hf hP hS dX5_harbour_77
      · replace hf := if_t c_18 hf
        refine lv_aload_n hx hb dX5_harbour_34 rfl (lv_at hl 0 rfl) ?_
        obtain ⟨a_28, ha_28, hf⟩ := bd_e hf
        refine Ct.callV (As := []) (rest := []) (st1 := [.int a_28.1]) (c_X5_statement l D cI A q12.2 a_28 ha_28) hx hb hml hown hts (cwV 0 hts gX5_harbour_X5_statement rfl rfl rfl hd_X5_statement ⟨Nat.le_of_ble_eq_true rfl, Nat.le_of_ble_eq_true rfl⟩) (va_recv hK hP (ci := 5) (q0 := 0) rfl cM_at0) (Ln.id rfl) hA hK hP hD hS rfl hl.1 rfl rfl (Nat.le_of_ble_eq_true rfl) dX5_harbour_35 (fun H locs hP hD hS => ?_)
        replace hP : va_P D vwCl (cM cI A a_28.2) H := hP
        replace hD : va_D AA (cM cI A a_28.2) := hD
        refine lv_istore_n (lv' := [(1, .int a_28.1), (0, .ref (A 0))]) hx hb dX5_harbour_38 rfl hl (by decide) rfl (fun ls hl => ?_)
        refine lv_aload_n hx hb dX5_harbour_39 rfl (lv_at hl 1 rfl) ?_
        refine lv_dup hx hb dX5_harbour_40 rfl ?_
        refine va_get (D := D) (ci := 5) (v := .int (a_28.2 16 6)) (C := RX5) (T := TX5) (N := 27) hx hb hts hw5 hown hK hP 0 cM_at0 rfl 18 (by decide) k101 (fun _ h9 => h9) rfl dX5_harbour_41 ?_
        refine lv_iload_n hx hb dX5_harbour_44 rfl (lv_at hl 0 rfl) ?_
        refine lv_if_eq (tgt := 52) hx hb dX5_harbour_45 (by decide) (fun c_29 => ?_) (fun c_29 => ?_)
        · replace hf := if_t c_29 hf
          refine lv_iconst (v := 0) hx hb dX5_harbour_52 (by decide) ?_
          refine lv_iadd hx hb dX5_harbour_53 ?_
          refine va_put (D := D) (ci := 5) (v := .int ((a_28.2 16 6) + (0 : Int32))) (ty := .int) (C := RX5) (T := TX5) (N := 27) hx hb hts hw5 tyX5 tyX5_ok nmX5 hown hK hP hD hS 0 cM_at0 rfl 18 (by decide) k101 (fun _ h9 => h9) rfl (tyX5_ok 18 (by decide)) rfl rfl (Nat.le_of_ble_eq_true rfl) dX5_harbour_54 (fun H locs hP hD hS => ?_)
          obtain ⟨h_30, eh_30, hf⟩ := nq_e hf
          rw [cM_sc0_18, ← eh_30] at hP hD
          refine lv_goto (tgt := 12) hx hb dX5_harbour_57 (by decide) ?_
          exact ih12 (a_28.1, h_30) hf H locs ls hP hD hS (lv_sub hl [1, 0] rfl)
        · replace hf := if_f c_29 hf
          refine lv_iconst (v := 1) hx hb dX5_harbour_48 (by decide) ?_
          refine lv_goto (tgt := 53) hx hb dX5_harbour_49 (by decide) ?_
          refine lv_iadd hx hb dX5_harbour_53 ?_
          refine va_put (D := D) (ci := 5) (v := .int ((a_28.2 16 6) + (1 : Int32))) (ty := .int) (C := RX5) (T := TX5) (N := 27) hx hb hts hw5 tyX5 tyX5_ok nmX5 hown hK hP hD hS 0 cM_at0 rfl 18 (by decide) k101 (fun _ h9 => h9) rfl (tyX5_ok 18 (by decide)) rfl rfl (Nat.le_of_ble_eq_true rfl) dX5_harbour_54 (fun H locs hP hD hS => ?_)
          obtain ⟨h_31, eh_31, hf⟩ := nq_e hf
          rw [cM_sc0_18, ← eh_31] at hP hD
          refine lv_goto (tgt := 12) hx hb dX5_harbour_57 (by decide) ?_
          exact ih12 (a_28.1, h_31) hf H locs ls hP hD hS (lv_sub hl [1, 0] rfl)

def rm_X5_thinks : Room := { frames := 2, cells := 0, slots := 0, locals := 44 }
theorem hd_X5_thinks : yX5_thinks.cls = RX5 ∧ yX5_thinks.cls ≠ "java/lang/invoke/MethodHandle" ∧ yX5_thinks.cls ≠ "java/lang/invoke/VarHandle" ∧ (parseMethodDescriptor yX5_thinks.desc).map (fun d => d.parameters.length) = some 0 := by decide +kernel
set_option maxRecDepth 100000 in
set_option maxHeartbeats 4000000 in
theorem c_X5_thinks (l : Launch) (D : va_G) (cI : ClassId) (A : Nat → Nat) (M : St) (r : St) (hf : f_X5_thinks M = some r) : Ct l yX5_thinks wsX5_thinks rm_X5_thinks D cI (cM cI A M) (cM cI A r) [.ref (A 0)] none := by
  unfold f_X5_thinks at hf
  refine Ct.ofV (cc := cX5_thinks) (maxL := 1) (by decide +kernel) rfl (Nat.le_of_ble_eq_true rfl) ?_
  intro p e s m args below meth c AA Q H locs ls hx hb hml hown hts hA hK hP hD hS hl hend0
  have hend : ∀ (r1 : St) (H : Heap) (locs : List Loc) (pc : Nat) (ls : Array Slot), some r1 = some r → va_P D vwCl (cM cI A r1) H → va_S AA s.heap H locs → decode cX5_thinks pc = .ok (.return_, 1) → W p l e rm_X5_thinks s m args below meth c H locs 0 0 Q (F0 m pc ls []) := by
    intro r1 H locs pc ls e1 hP hS hd; cases e1; exact hend0 H locs pc ls hP hS hd
  clear hend0
  replace hl : lv_has ls 1 [(0, .ref (A 0))] := hl
  refine lv_aload_n hx hb dX5_thinks_0 rfl (lv_at hl 0 rfl) ?_
  refine lv_iconst (v := 2) hx hb dX5_thinks_1 (by decide) ?_
  refine lv_iconst (v := 1) hx hb dX5_thinks_2 (by decide) ?_
  obtain ⟨a_1, ha_1, hf⟩ := bd_e hf
  refine Ct.callV (As := [.int (2 : Int32), .int (1 : Int32)]) (rest := []) (st1 := []) (c_X5_passesAll l D cI A M (2 : Int32) (1 : Int32) a_1 ha_1) hx hb hml hown hts (cwV 2 hts gX5_thinks_X5_passesAll rfl rfl rfl hd_X5_passesAll ⟨Nat.le_of_ble_eq_true rfl, Nat.le_of_ble_eq_true rfl⟩) (va_recv hK hP (ci := 5) (q0 := 0) rfl cM_at0) (Ln.id rfl) hA hK hP hD hS rfl hl.1 rfl rfl (Nat.le_of_ble_eq_true rfl) dX5_thinks_3 (fun H locs hP hD hS => ?_)
  replace hP : va_P D vwCl (cM cI A a_1) H := hP
  replace hD : va_D AA (cM cI A a_1) := hD
  exact hend a_1 H locs _ _ hf hP hS dX5_thinks_6

def rm_X5_forgets : Room := { frames := 2, cells := 0, slots := 0, locals := 44 }
theorem hd_X5_forgets : yX5_forgets.cls = RX5 ∧ yX5_forgets.cls ≠ "java/lang/invoke/MethodHandle" ∧ yX5_forgets.cls ≠ "java/lang/invoke/VarHandle" ∧ (parseMethodDescriptor yX5_forgets.desc).map (fun d => d.parameters.length) = some 0 := by decide +kernel
set_option maxRecDepth 100000 in
set_option maxHeartbeats 4000000 in
theorem c_X5_forgets (l : Launch) (D : va_G) (cI : ClassId) (A : Nat → Nat) (M : St) (r : St) (hf : f_X5_forgets M = some r) : Ct l yX5_forgets wsX5_forgets rm_X5_forgets D cI (cM cI A M) (cM cI A r) [.ref (A 0)] none := by
  unfold f_X5_forgets at hf
  refine Ct.ofV (cc := cX5_forgets) (maxL := 1) (by decide +kernel) rfl (Nat.le_of_ble_eq_true rfl) ?_
  intro p e s m args below meth c AA Q H locs ls hx hb hml hown hts hA hK hP hD hS hl hend0
  have hend : ∀ (r1 : St) (H : Heap) (locs : List Loc) (pc : Nat) (ls : Array Slot), some r1 = some r → va_P D vwCl (cM cI A r1) H → va_S AA s.heap H locs → decode cX5_forgets pc = .ok (.return_, 1) → W p l e rm_X5_forgets s m args below meth c H locs 0 0 Q (F0 m pc ls []) := by
    intro r1 H locs pc ls e1 hP hS hd; cases e1; exact hend0 H locs pc ls hP hS hd
  clear hend0
  replace hl : lv_has ls 1 [(0, .ref (A 0))] := hl
  refine lv_aload_n hx hb dX5_forgets_0 rfl (lv_at hl 0 rfl) ?_
  refine lv_iconst (v := 2) hx hb dX5_forgets_1 (by decide) ?_
  refine lv_iconst (v := 0) hx hb dX5_forgets_2 (by decide) ?_
  obtain ⟨a_1, ha_1, hf⟩ := bd_e hf
  refine Ct.callV (As := [.int (2 : Int32), .int (0 : Int32)]) (rest := []) (st1 := []) (c_X5_passesAll l D cI A M (2 : Int32) (0 : Int32) a_1 ha_1) hx hb hml hown hts (cwV 2 hts gX5_forgets_X5_passesAll rfl rfl rfl hd_X5_passesAll ⟨Nat.le_of_ble_eq_true rfl, Nat.le_of_ble_eq_true rfl⟩) (va_recv hK hP (ci := 5) (q0 := 0) rfl cM_at0) (Ln.id rfl) hA hK hP hD hS rfl hl.1 rfl rfl (Nat.le_of_ble_eq_true rfl) dX5_forgets_3 (fun H locs hP hD hS => ?_)
  replace hP : va_P D vwCl (cM cI A a_1) H := hP
  replace hD : va_D AA (cM cI A a_1) := hD
  exact hend a_1 H locs _ _ hf hP hS dX5_forgets_6

def rm_X5_image : Room := { frames := 2, cells := 0, slots := 0, locals := 44 }
theorem hd_X5_image : yX5_image.cls = RX5 ∧ yX5_image.cls ≠ "java/lang/invoke/MethodHandle" ∧ yX5_image.cls ≠ "java/lang/invoke/VarHandle" ∧ (parseMethodDescriptor yX5_image.desc).map (fun d => d.parameters.length) = some 0 := by decide +kernel
set_option maxRecDepth 100000 in
set_option maxHeartbeats 4000000 in
theorem c_X5_image (l : Launch) (D : va_G) (cI : ClassId) (A : Nat → Nat) (M : St) (r : Int32 × St) (hf : f_X5_image M = some r) : Ct l yX5_image wsX5_image rm_X5_image D cI (cM cI A M) (cM cI A r.2) [.ref (A 0)] (some (.int r.1)) := by
  unfold f_X5_image at hf
  refine Ct.ofI (cc := cX5_image) (maxL := 1) (by decide +kernel) rfl (Nat.le_of_ble_eq_true rfl) ?_
  intro p e s m args below meth c AA Q H locs ls hx hb hml hown hts hA hK hP hD hS hl hend0
  have hend : ∀ (r1 : Int32 × St) (H : Heap) (locs : List Loc) (pc : Nat) (ls : Array Slot), some r1 = some r → va_P D vwCl (cM cI A r1.2) H → va_S AA s.heap H locs → decode cX5_image pc = .ok (.ireturn, 1) → W p l e rm_X5_image s m args below meth c H locs 0 0 Q (F0 m pc ls [.int r1.1]) := by
    intro r1 H locs pc ls e1 hP hS hd; cases e1; exact hend0 H locs pc ls hP hS hd
  clear hend0
  have hw5 : ∀ w ∈ wsX50, w ∈ wsX5_image := by decide +kernel
  have k110 := hts (.fieldLink RX5 110 "AnchorsForConfessionModel" "tide" "I") (by decide +kernel)
  have k163 := hts (.fieldLink RX5 163 "AnchorsForConfessionModel" "hasImage" "Z") (by decide +kernel)
  replace hl : lv_has ls 1 [(0, .ref (A 0))] := hl
  refine lv_aload_n hx hb dX5_image_0 rfl (lv_at hl 0 rfl) ?_
  refine lv_iconst (v := 1) hx hb dX5_image_1 (by decide) ?_
  refine va_put (D := D) (ci := 5) (v := .int (1 : Int32)) (ty := .boolean) (C := RX5) (T := TX5) (N := 27) hx hb hts hw5 tyX5 tyX5_ok nmX5 hown hK hP hD hS 0 cM_at0 rfl 20 (by decide) k163 (fun _ h9 => h9) rfl (tyX5_ok 20 (by decide)) rfl rfl (Nat.le_of_ble_eq_true rfl) dX5_image_2 (fun H locs hP hD hS => ?_)
  obtain ⟨h_1, eh_1, hf⟩ := nq_e hf
  rw [cM_sc0_20, ← eh_1] at hP hD
  refine lv_aload_n hx hb dX5_image_5 rfl (lv_at hl 0 rfl) ?_
  refine lv_iconst (v := 0) hx hb dX5_image_6 (by decide) ?_
  refine lv_iconst (v := 1) hx hb dX5_image_7 (by decide) ?_
  obtain ⟨a_2, ha_2, hf⟩ := bd_e hf
  refine Ct.callV (As := [.int (0 : Int32), .int (1 : Int32)]) (rest := []) (st1 := []) (c_X5_passesAll l D cI A h_1 (0 : Int32) (1 : Int32) a_2 ha_2) hx hb hml hown hts (cwV 2 hts gX5_image_X5_passesAll rfl rfl rfl hd_X5_passesAll ⟨Nat.le_of_ble_eq_true rfl, Nat.le_of_ble_eq_true rfl⟩) (va_recv hK hP (ci := 5) (q0 := 0) rfl cM_at0) (Ln.id rfl) hA hK hP hD hS rfl hl.1 rfl rfl (Nat.le_of_ble_eq_true rfl) dX5_image_8 (fun H locs hP hD hS => ?_)
  replace hP : va_P D vwCl (cM cI A a_2) H := hP
  replace hD : va_D AA (cM cI A a_2) := hD
  refine lv_aload_n hx hb dX5_image_11 rfl (lv_at hl 0 rfl) ?_
  refine va_get (D := D) (ci := 5) (v := .int (a_2 16 3)) (C := RX5) (T := TX5) (N := 27) hx hb hts hw5 hown hK hP 0 cM_at0 rfl 11 (by decide) k110 (fun _ h9 => h9) rfl dX5_image_12 ?_
  exact hend ((a_2 16 3), a_2) H locs _ _ hf hP hS dX5_image_15

def rm_X5_on : Room := { frames := 2, cells := 0, slots := 0, locals := 44 }
theorem hd_X5_on : yX5_on.cls = RX5 ∧ yX5_on.cls ≠ "java/lang/invoke/MethodHandle" ∧ yX5_on.cls ≠ "java/lang/invoke/VarHandle" ∧ (parseMethodDescriptor yX5_on.desc).map (fun d => d.parameters.length) = some 0 := by decide +kernel
set_option maxRecDepth 100000 in
set_option maxHeartbeats 4000000 in
theorem c_X5_on (l : Launch) (D : va_G) (cI : ClassId) (A : Nat → Nat) (M : St) (r : Int32 × St) (hf : f_X5_on M = some r) : Ct l yX5_on wsX5_on rm_X5_on D cI (cM cI A M) (cM cI A r.2) [.ref (A 0)] (some (.int r.1)) := by
  unfold f_X5_on at hf
  refine Ct.ofI (cc := cX5_on) (maxL := 1) (by decide +kernel) rfl (Nat.le_of_ble_eq_true rfl) ?_
  intro p e s m args below meth c AA Q H locs ls hx hb hml hown hts hA hK hP hD hS hl hend0
  have hend : ∀ (r1 : Int32 × St) (H : Heap) (locs : List Loc) (pc : Nat) (ls : Array Slot), some r1 = some r → va_P D vwCl (cM cI A r1.2) H → va_S AA s.heap H locs → decode cX5_on pc = .ok (.ireturn, 1) → W p l e rm_X5_on s m args below meth c H locs 0 0 Q (F0 m pc ls [.int r1.1]) := by
    intro r1 H locs pc ls e1 hP hS hd; cases e1; exact hend0 H locs pc ls hP hS hd
  clear hend0
  have hw5 : ∀ w ∈ wsX50, w ∈ wsX5_on := by decide +kernel
  have k110 := hts (.fieldLink RX5 110 "AnchorsForConfessionModel" "tide" "I") (by decide +kernel)
  have k163 := hts (.fieldLink RX5 163 "AnchorsForConfessionModel" "hasImage" "Z") (by decide +kernel)
  replace hl : lv_has ls 1 [(0, .ref (A 0))] := hl
  refine lv_aload_n hx hb dX5_on_0 rfl (lv_at hl 0 rfl) ?_
  refine va_get (D := D) (ci := 5) (v := .int (M 16 7)) (C := RX5) (T := TX5) (N := 27) hx hb hts hw5 hown hK hP 0 cM_at0 rfl 20 (by decide) k163 (fun _ h9 => h9) rfl dX5_on_1 ?_
  refine lv_if_ne (tgt := 14) hx hb dX5_on_4 (by decide) (fun c_1 => ?_) (fun c_1 => ?_)
  · replace hf := if_f c_1 hf
    refine lv_aload_n hx hb dX5_on_14 rfl (lv_at hl 0 rfl) ?_
    refine lv_iconst (v := 0) hx hb dX5_on_15 (by decide) ?_
    refine lv_iconst (v := 0) hx hb dX5_on_16 (by decide) ?_
    obtain ⟨a_2, ha_2, hf⟩ := bd_e hf
    refine Ct.callV (As := [.int (0 : Int32), .int (0 : Int32)]) (rest := []) (st1 := []) (c_X5_passesAll l D cI A M (0 : Int32) (0 : Int32) a_2 ha_2) hx hb hml hown hts (cwV 2 hts gX5_on_X5_passesAll rfl rfl rfl hd_X5_passesAll ⟨Nat.le_of_ble_eq_true rfl, Nat.le_of_ble_eq_true rfl⟩) (va_recv hK hP (ci := 5) (q0 := 0) rfl cM_at0) (Ln.id rfl) hA hK hP hD hS rfl hl.1 rfl rfl (Nat.le_of_ble_eq_true rfl) dX5_on_17 (fun H locs hP hD hS => ?_)
    replace hP : va_P D vwCl (cM cI A a_2) H := hP
    replace hD : va_D AA (cM cI A a_2) := hD
    refine lv_aload_n hx hb dX5_on_20 rfl (lv_at hl 0 rfl) ?_
    refine va_get (D := D) (ci := 5) (v := .int (a_2 16 3)) (C := RX5) (T := TX5) (N := 27) hx hb hts hw5 hown hK hP 0 cM_at0 rfl 11 (by decide) k110 (fun _ h9 => h9) rfl dX5_on_21 ?_
    exact hend ((a_2 16 3), a_2) H locs _ _ hf hP hS dX5_on_24
  · replace hf := if_t c_1 hf
    refine lv_aload_n hx hb dX5_on_7 rfl (lv_at hl 0 rfl) ?_
    refine lv_bipush (v := -3) hx hb dX5_on_8 (by decide +kernel) ?_
    obtain ⟨a_3, ha_3, hf⟩ := bd_e hf
    refine Ct.callV (As := [.int (-3 : Int32)]) (rest := []) (st1 := [.int a_3.1]) (c_X5_no l D cI A M (-3 : Int32) a_3 ha_3) hx hb hml hown hts (cwV 1 hts gX5_on_X5_no rfl rfl rfl hd_X5_no ⟨Nat.le_of_ble_eq_true rfl, Nat.le_of_ble_eq_true rfl⟩) (va_recv hK hP (ci := 5) (q0 := 0) rfl cM_at0) (Ln.id rfl) hA hK hP hD hS rfl hl.1 rfl rfl (Nat.le_of_ble_eq_true rfl) dX5_on_10 (fun H locs hP hD hS => ?_)
    replace hP : va_P D vwCl (cM cI A a_3.2) H := hP
    replace hD : va_D AA (cM cI A a_3.2) := hD
    exact hend (a_3.1, a_3.2) H locs _ _ hf hP hS dX5_on_13

def rm_X5_lacks : Room := { frames := 1, cells := 0, slots := 0, locals := 21 }
theorem hd_X5_lacks : yX5_lacks.cls = RX5 ∧ yX5_lacks.cls ≠ "java/lang/invoke/MethodHandle" ∧ yX5_lacks.cls ≠ "java/lang/invoke/VarHandle" ∧ (parseMethodDescriptor yX5_lacks.desc).map (fun d => d.parameters.length) = some 1 := by decide +kernel
set_option maxRecDepth 100000 in
set_option maxHeartbeats 4000000 in
theorem c_X5_lacks (l : Launch) (D : va_G) (cI : ClassId) (A : Nat → Nat) (M : St) (p1 : Int32) (r : Int32) (hf : f_X5_lacks M p1 = some r) : Ct l yX5_lacks wsX5_lacks rm_X5_lacks D cI (cM cI A M) (cM cI A M) [.ref (A 0), .int p1] (some (.int r)) := by
  unfold f_X5_lacks at hf
  refine Ct.ofI (cc := cX5_lacks) (maxL := 2) (by decide +kernel) rfl (Nat.le_of_ble_eq_true rfl) ?_
  intro p e s m args below meth c AA Q H locs ls hx hb hml hown hts hA hK hP hD hS hl hend0
  have hend : ∀ (r1 : Int32) (H : Heap) (locs : List Loc) (pc : Nat) (ls : Array Slot), some r1 = some r → va_P D vwCl (cM cI A M) H → va_S AA s.heap H locs → decode cX5_lacks pc = .ok (.ireturn, 1) → W p l e rm_X5_lacks s m args below meth c H locs 0 0 Q (F0 m pc ls [.int r1]) := by
    intro r1 H locs pc ls e1 hP hS hd; cases e1; exact hend0 H locs pc ls hP hS hd
  clear hend0
  have hw5 : ∀ w ∈ wsX50, w ∈ wsX5_lacks := by decide +kernel
  have k16 := hts (.fieldLink RX5 16 "AnchorsForConfessionModel" "loose" "[I") (by decide +kernel)
  have k19 := hts (.fieldLink RX5 19 "AnchorsForConfessionModel" "out" "[I") (by decide +kernel)
  replace hl : lv_has ls 2 [(0, .ref (A 0)), (1, .int p1)] := hl
  refine lv_aload_n hx hb dX5_lacks_0 rfl (lv_at hl 0 rfl) ?_
  refine va_get (D := D) (ci := 5) (v := .ref (A 4)) (C := RX5) (T := TX5) (N := 27) hx hb hts hw5 hown hK hP 0 cM_at0 rfl 3 (by decide) k19 (fun _ h9 => h9) rfl dX5_lacks_1 ?_
  refine lv_iload_n hx hb dX5_lacks_4 rfl (lv_at hl 1 rfl) ?_
  obtain ⟨c_1, hf⟩ := gi_e hf
  refine va_iald hx hb hK hP 4 0 cM_at4 rfl c_1 dX5_lacks_5 ?_
  refine lv_if_gt (tgt := 23) hx hb dX5_lacks_6 (by decide) (fun c_2 => ?_) (fun c_2 => ?_)
  · replace hf := if_t c_2 hf
    refine lv_iconst (v := 0) hx hb dX5_lacks_23 (by decide) ?_
    refine lv_goto (tgt := 39) hx hb dX5_lacks_24 (by decide) ?_
    exact hend (0 : Int32) H locs _ _ hf hP hS dX5_lacks_39
  · replace hf := if_f c_2 hf
    refine lv_aload_n hx hb dX5_lacks_9 rfl (lv_at hl 0 rfl) ?_
    refine va_get (D := D) (ci := 5) (v := .ref (A 3)) (C := RX5) (T := TX5) (N := 27) hx hb hts hw5 hown hK hP 0 cM_at0 rfl 2 (by decide) k16 (fun _ h9 => h9) rfl dX5_lacks_10 ?_
    refine lv_iload_n hx hb dX5_lacks_13 rfl (lv_at hl 1 rfl) ?_
    obtain ⟨c_3, hf⟩ := gi_e hf
    refine va_iald hx hb hK hP 3 0 cM_at3 rfl c_3 dX5_lacks_14 ?_
    refine lv_aload_n hx hb dX5_lacks_15 rfl (lv_at hl 0 rfl) ?_
    refine lv_iload_n hx hb dX5_lacks_16 rfl (lv_at hl 1 rfl) ?_
    obtain ⟨a_4, ha_4, hf⟩ := bd_e hf
    refine Ct.callV (As := [.int p1]) (rest := [.int (M 2 (p1).toNatClampNeg)]) (st1 := [.int a_4, .int (M 2 (p1).toNatClampNeg)]) (c_X5_holds l D cI A M p1 a_4 ha_4) hx hb hml hown hts (cwV 1 hts gX5_lacks_X5_holds rfl rfl rfl hd_X5_holds ⟨Nat.le_of_ble_eq_true rfl, Nat.le_of_ble_eq_true rfl⟩) (va_recv hK hP (ci := 5) (q0 := 0) rfl cM_at0) (Ln.id rfl) hA hK hP hD hS rfl hl.1 rfl rfl (Nat.le_of_ble_eq_true rfl) dX5_lacks_17 (fun H locs hP hD hS => ?_)
    refine lv_icmp_lt (tgt := 27) hx hb dX5_lacks_20 (by decide) (fun c_5 => ?_) (fun c_5 => ?_)
    · replace hf := if_t c_5 hf
      refine lv_aload_n hx hb dX5_lacks_27 rfl (lv_at hl 0 rfl) ?_
      refine lv_iload_n hx hb dX5_lacks_28 rfl (lv_at hl 1 rfl) ?_
      obtain ⟨a_6, ha_6, hf⟩ := bd_e hf
      refine Ct.callV (As := [.int p1]) (rest := []) (st1 := [.int a_6]) (c_X5_holds l D cI A M p1 a_6 ha_6) hx hb hml hown hts (cwV 1 hts gX5_lacks_X5_holds rfl rfl rfl hd_X5_holds ⟨Nat.le_of_ble_eq_true rfl, Nat.le_of_ble_eq_true rfl⟩) (va_recv hK hP (ci := 5) (q0 := 0) rfl cM_at0) (Ln.id rfl) hA hK hP hD hS rfl hl.1 rfl rfl (Nat.le_of_ble_eq_true rfl) dX5_lacks_29 (fun H locs hP hD hS => ?_)
      refine lv_aload_n hx hb dX5_lacks_32 rfl (lv_at hl 0 rfl) ?_
      refine va_get (D := D) (ci := 5) (v := .ref (A 3)) (C := RX5) (T := TX5) (N := 27) hx hb hts hw5 hown hK hP 0 cM_at0 rfl 2 (by decide) k16 (fun _ h9 => h9) rfl dX5_lacks_33 ?_
      refine lv_iload_n hx hb dX5_lacks_36 rfl (lv_at hl 1 rfl) ?_
      obtain ⟨c_7, hf⟩ := gi_e hf
      refine va_iald hx hb hK hP 3 0 cM_at3 rfl c_7 dX5_lacks_37 ?_
      refine lv_isub hx hb dX5_lacks_38 ?_
      exact hend (a_6 - (M 2 (p1).toNatClampNeg)) H locs _ _ hf hP hS dX5_lacks_39
    · replace hf := if_f c_5 hf
      refine lv_iconst (v := 0) hx hb dX5_lacks_23 (by decide) ?_
      refine lv_goto (tgt := 39) hx hb dX5_lacks_24 (by decide) ?_
      exact hend (0 : Int32) H locs _ _ hf hP hS dX5_lacks_39

def rm_X5_poolOn : Room := { frames := 1, cells := 0, slots := 0, locals := 24 }
theorem hd_X5_poolOn : yX5_poolOn.cls = RX5 ∧ yX5_poolOn.cls ≠ "java/lang/invoke/MethodHandle" ∧ yX5_poolOn.cls ≠ "java/lang/invoke/VarHandle" ∧ (parseMethodDescriptor yX5_poolOn.desc).map (fun d => d.parameters.length) = some 2 := by decide +kernel
set_option maxRecDepth 100000 in
set_option maxHeartbeats 4000000 in
theorem c_X5_poolOn (l : Launch) (D : va_G) (cI : ClassId) (A : Nat → Nat) (M : St) (p1 : Int32) (p2 : Int32) (r : Int32) (hf : f_X5_poolOn M p1 p2 = some r) : Ct l yX5_poolOn wsX5_poolOn rm_X5_poolOn D cI (cM cI A M) (cM cI A M) [.ref (A 0), .int p1, .int p2] (some (.int r)) := by
  unfold f_X5_poolOn at hf
  refine Ct.ofI (cc := cX5_poolOn) (maxL := 5) (by decide +kernel) rfl (Nat.le_of_ble_eq_true rfl) ?_
  intro p e s m args below meth c AA Q H locs ls hx hb hml hown hts hA hK hP hD hS hl hend0
  have hend : ∀ (r1 : Int32) (H : Heap) (locs : List Loc) (pc : Nat) (ls : Array Slot), some r1 = some r → va_P D vwCl (cM cI A M) H → va_S AA s.heap H locs → decode cX5_poolOn pc = .ok (.ireturn, 1) → W p l e rm_X5_poolOn s m args below meth c H locs 0 0 Q (F0 m pc ls [.int r1]) := by
    intro r1 H locs pc ls e1 hP hS hd; cases e1; exact hend0 H locs pc ls hP hS hd
  clear hend0
  have hw5 : ∀ w ∈ wsX50, w ∈ wsX5_poolOn := by decide +kernel
  have k28 := hts (.fieldLink RX5 28 "AnchorsForConfessionModel" "sins" "[I") (by decide +kernel)
  have k31 := hts (.fieldLink RX5 31 "AnchorsForConfessionModel" "aboard" "[I") (by decide +kernel)
  have k65 := hts (.fieldLink RX5 65 "AnchorsForConfessionModel" "men" "I") (by decide +kernel)
  replace hl : lv_has ls 5 [(0, .ref (A 0)), (1, .int p1), (2, .int p2)] := hl
  refine lv_iconst (v := 0) hx hb dX5_poolOn_0 (by decide) ?_
  refine lv_istore_n (lv' := [(3, .int (0 : Int32)), (0, .ref (A 0)), (1, .int p1), (2, .int p2)]) hx hb dX5_poolOn_1 rfl hl (by decide) rfl (fun ls hl => ?_)
  refine lv_iconst (v := 0) hx hb dX5_poolOn_2 (by decide) ?_
  refine lv_istore (lv' := [(4, .int (0 : Int32)), (3, .int (0 : Int32)), (0, .ref (A 0)), (1, .int p1), (2, .int p2)]) hx hb dX5_poolOn_3 hl (by decide) rfl (fun ls hl => ?_)
  refine lp_ind (P := fun (q5 : Int32 × Int32) => ∀ (H : Heap) (locs : List Loc) (ls : Array Slot), va_P D vwCl (cM cI A M) H → va_D AA (cM cI A M) → va_S AA s.heap H locs → lv_has ls 5 [(0, .ref (A 0)), (1, .int p1), (2, .int p2), (3, .int q5.1), (4, .int q5.2)] → W p l e rm_X5_poolOn s m args below meth c H locs 0 0 Q (F0 m 5 ls [])) hf ?_ H locs ls hP hD hS (lv_sub hl [2, 3, 4, 1, 0] rfl)
  clear hf hP hD hS hl
  intro nx5 ih5 q5 hf H locs ls hP hD hS hl
  refine lv_iload hx hb dX5_poolOn_5 (lv_at hl 4 rfl) ?_
  refine lv_aload_n hx hb dX5_poolOn_7 rfl (lv_at hl 0 rfl) ?_
  refine va_get (D := D) (ci := 5) (v := .int (M 16 1)) (C := RX5) (T := TX5) (N := 27) hx hb hts hw5 hown hK hP 0 cM_at0 rfl 9 (by decide) k65 (fun _ h9 => h9) rfl dX5_poolOn_8 ?_
  refine lv_icmp_ge (tgt := 53) hx hb dX5_poolOn_11 (by decide) (fun c_1 => ?_) (fun c_1 => ?_)
  · replace hf := if_t c_1 hf
    refine lv_iload_n hx hb dX5_poolOn_53 rfl (lv_at hl 3 rfl) ?_
    exact hend q5.1 H locs _ _ hf hP hS dX5_poolOn_54
  · replace hf := if_f c_1 hf
    refine lv_iload_n hx hb dX5_poolOn_14 rfl (lv_at hl 3 rfl) ?_
    refine lv_aload_n hx hb dX5_poolOn_15 rfl (lv_at hl 0 rfl) ?_
    refine va_get (D := D) (ci := 5) (v := .ref (A 8)) (C := RX5) (T := TX5) (N := 27) hx hb hts hw5 hown hK hP 0 cM_at0 rfl 7 (by decide) k31 (fun _ h9 => h9) rfl dX5_poolOn_16 ?_
    refine lv_iload hx hb dX5_poolOn_19 (lv_at hl 4 rfl) ?_
    obtain ⟨c_2, hf⟩ := gi_e hf
    refine va_iald hx hb hK hP 8 0 cM_at8 rfl c_2 dX5_poolOn_21 ?_
    refine lv_iload_n hx hb dX5_poolOn_22 rfl (lv_at hl 1 rfl) ?_
    refine lv_icmp_ne (tgt := 44) hx hb dX5_poolOn_23 (by decide) (fun c_3 => ?_) (fun c_3 => ?_)
    · replace hf := if_f c_3 hf
      refine lv_iconst (v := 0) hx hb dX5_poolOn_44 (by decide) ?_
      refine lv_iadd hx hb dX5_poolOn_45 ?_
      refine lv_topi (fun v_4 ev_4 => ?_)
      replace hf := nm_at ev_4 hf
      refine lv_istore_n (lv' := [(3, .int v_4), (0, .ref (A 0)), (1, .int p1), (2, .int p2), (4, .int q5.2)]) hx hb dX5_poolOn_46 rfl hl (by decide) rfl (fun ls hl => ?_)
      obtain ⟨v_5, ev_5, hf⟩ := nq_e hf
      refine lv_iinc (v := v_5) (lv' := [(4, .int v_5), (3, .int v_4), (0, .ref (A 0)), (1, .int p1), (2, .int p2)]) hx hb dX5_poolOn_47 hl (k := 4) rfl (by rw [ev_5]; rfl) (by decide) rfl (fun ls hl => ?_)
      refine lv_goto (tgt := 5) hx hb dX5_poolOn_50 (by decide) ?_
      exact ih5 (v_4, v_5) hf H locs ls hP hD hS (lv_sub hl [2, 3, 4, 1, 0] rfl)
    · replace hf := if_t c_3 hf
      refine lv_aload_n hx hb dX5_poolOn_26 rfl (lv_at hl 0 rfl) ?_
      refine va_get (D := D) (ci := 5) (v := .ref (A 7)) (C := RX5) (T := TX5) (N := 27) hx hb hts hw5 hown hK hP 0 cM_at0 rfl 6 (by decide) k28 (fun _ h9 => h9) rfl dX5_poolOn_27 ?_
      refine lv_iload hx hb dX5_poolOn_30 (lv_at hl 4 rfl) ?_
      obtain ⟨c_6, hf⟩ := gi_e hf
      refine va_iald hx hb hK hP 7 0 cM_at7 rfl c_6 dX5_poolOn_32 ?_
      refine lv_aload_n hx hb dX5_poolOn_33 rfl (lv_at hl 0 rfl) ?_
      refine lv_iload hx hb dX5_poolOn_34 (lv_at hl 4 rfl) ?_
      refine lv_iload_n hx hb dX5_poolOn_36 rfl (lv_at hl 2 rfl) ?_
      obtain ⟨a_7, ha_7, hf⟩ := bd_e hf
      refine Ct.callV (As := [.int q5.2, .int p2]) (rest := [.int (M 6 (q5.2).toNatClampNeg), .int q5.1]) (st1 := [.int a_7, .int (M 6 (q5.2).toNatClampNeg), .int q5.1]) (c_X5_worthOn l D cI A M q5.2 p2 a_7 ha_7) hx hb hml hown hts (cwV 2 hts gX5_poolOn_X5_worthOn rfl rfl rfl hd_X5_worthOn ⟨Nat.le_of_ble_eq_true rfl, Nat.le_of_ble_eq_true rfl⟩) (va_recv hK hP (ci := 5) (q0 := 0) rfl cM_at0) (Ln.id rfl) hA hK hP hD hS rfl hl.1 rfl rfl (Nat.le_of_ble_eq_true rfl) dX5_poolOn_37 (fun H locs hP hD hS => ?_)
      refine lv_imul hx hb dX5_poolOn_40 ?_
      refine lv_goto (tgt := 45) hx hb dX5_poolOn_41 (by decide) ?_
      refine lv_iadd hx hb dX5_poolOn_45 ?_
      refine lv_topi (fun v_8 ev_8 => ?_)
      replace hf := nm_at ev_8 hf
      refine lv_istore_n (lv' := [(3, .int v_8), (0, .ref (A 0)), (1, .int p1), (2, .int p2), (4, .int q5.2)]) hx hb dX5_poolOn_46 rfl hl (by decide) rfl (fun ls hl => ?_)
      obtain ⟨v_9, ev_9, hf⟩ := nq_e hf
      refine lv_iinc (v := v_9) (lv' := [(4, .int v_9), (3, .int v_8), (0, .ref (A 0)), (1, .int p1), (2, .int p2)]) hx hb dX5_poolOn_47 hl (k := 4) rfl (by rw [ev_9]; rfl) (by decide) rfl (fun ls hl => ?_)
      refine lv_goto (tgt := 5) hx hb dX5_poolOn_50 (by decide) ?_
      exact ih5 (v_8, v_9) hf H locs ls hP hD hS (lv_sub hl [2, 3, 4, 1, 0] rfl)

def rm_X5_pool : Room := { frames := 2, cells := 0, slots := 0, locals := 48 }
theorem hd_X5_pool : yX5_pool.cls = RX5 ∧ yX5_pool.cls ≠ "java/lang/invoke/MethodHandle" ∧ yX5_pool.cls ≠ "java/lang/invoke/VarHandle" ∧ (parseMethodDescriptor yX5_pool.desc).map (fun d => d.parameters.length) = some 1 := by decide +kernel
set_option maxRecDepth 100000 in
set_option maxHeartbeats 4000000 in
theorem c_X5_pool (l : Launch) (D : va_G) (cI : ClassId) (A : Nat → Nat) (M : St) (p1 : Int32) (r : Int32) (hf : f_X5_pool M p1 = some r) : Ct l yX5_pool wsX5_pool rm_X5_pool D cI (cM cI A M) (cM cI A M) [.ref (A 0), .int p1] (some (.int r)) := by
  unfold f_X5_pool at hf
  refine Ct.ofI (cc := cX5_pool) (maxL := 2) (by decide +kernel) rfl (Nat.le_of_ble_eq_true rfl) ?_
  intro p e s m args below meth c AA Q H locs ls hx hb hml hown hts hA hK hP hD hS hl hend0
  have hend : ∀ (r1 : Int32) (H : Heap) (locs : List Loc) (pc : Nat) (ls : Array Slot), some r1 = some r → va_P D vwCl (cM cI A M) H → va_S AA s.heap H locs → decode cX5_pool pc = .ok (.ireturn, 1) → W p l e rm_X5_pool s m args below meth c H locs 0 0 Q (F0 m pc ls [.int r1]) := by
    intro r1 H locs pc ls e1 hP hS hd; cases e1; exact hend0 H locs pc ls hP hS hd
  clear hend0
  have hw5 : ∀ w ∈ wsX50, w ∈ wsX5_pool := by decide +kernel
  have k110 := hts (.fieldLink RX5 110 "AnchorsForConfessionModel" "tide" "I") (by decide +kernel)
  replace hl : lv_has ls 2 [(0, .ref (A 0)), (1, .int p1)] := hl
  refine lv_aload_n hx hb dX5_pool_0 rfl (lv_at hl 0 rfl) ?_
  refine lv_iload_n hx hb dX5_pool_1 rfl (lv_at hl 1 rfl) ?_
  refine lv_aload_n hx hb dX5_pool_2 rfl (lv_at hl 0 rfl) ?_
  refine va_get (D := D) (ci := 5) (v := .int (M 16 3)) (C := RX5) (T := TX5) (N := 27) hx hb hts hw5 hown hK hP 0 cM_at0 rfl 11 (by decide) k110 (fun _ h9 => h9) rfl dX5_pool_3 ?_
  obtain ⟨a_1, ha_1, hf⟩ := bd_e hf
  refine Ct.callV (As := [.int p1, .int (M 16 3)]) (rest := []) (st1 := [.int a_1]) (c_X5_poolOn l D cI A M p1 (M 16 3) a_1 ha_1) hx hb hml hown hts (cwV 2 hts gX5_pool_X5_poolOn rfl rfl rfl hd_X5_poolOn ⟨Nat.le_of_ble_eq_true rfl, Nat.le_of_ble_eq_true rfl⟩) (va_recv hK hP (ci := 5) (q0 := 0) rfl cM_at0) (Ln.id rfl) hA hK hP hD hS rfl hl.1 rfl rfl (Nat.le_of_ble_eq_true rfl) dX5_pool_6 (fun H locs hP hD hS => ?_)
  exact hend a_1 H locs _ _ hf hP hS dX5_pool_9

def rm_X5_crew : Room := { frames := 0, cells := 0, slots := 0, locals := 0 }
theorem hd_X5_crew : yX5_crew.cls = RX5 ∧ yX5_crew.cls ≠ "java/lang/invoke/MethodHandle" ∧ yX5_crew.cls ≠ "java/lang/invoke/VarHandle" ∧ (parseMethodDescriptor yX5_crew.desc).map (fun d => d.parameters.length) = some 1 := by decide +kernel
set_option maxRecDepth 100000 in
set_option maxHeartbeats 4000000 in
theorem c_X5_crew (l : Launch) (D : va_G) (cI : ClassId) (A : Nat → Nat) (M : St) (p1 : Int32) (r : Int32) (hf : f_X5_crew M p1 = some r) : Ct l yX5_crew wsX5_crew rm_X5_crew D cI (cM cI A M) (cM cI A M) [.ref (A 0), .int p1] (some (.int r)) := by
  unfold f_X5_crew at hf
  refine Ct.ofI (cc := cX5_crew) (maxL := 4) (by decide +kernel) rfl (Nat.le_of_ble_eq_true rfl) ?_
  intro p e s m args below meth c AA Q H locs ls hx hb hml hown hts hA hK hP hD hS hl hend0
  have hend : ∀ (r1 : Int32) (H : Heap) (locs : List Loc) (pc : Nat) (ls : Array Slot), some r1 = some r → va_P D vwCl (cM cI A M) H → va_S AA s.heap H locs → decode cX5_crew pc = .ok (.ireturn, 1) → W p l e rm_X5_crew s m args below meth c H locs 0 0 Q (F0 m pc ls [.int r1]) := by
    intro r1 H locs pc ls e1 hP hS hd; cases e1; exact hend0 H locs pc ls hP hS hd
  clear hend0
  have hw5 : ∀ w ∈ wsX50, w ∈ wsX5_crew := by decide +kernel
  have k31 := hts (.fieldLink RX5 31 "AnchorsForConfessionModel" "aboard" "[I") (by decide +kernel)
  have k65 := hts (.fieldLink RX5 65 "AnchorsForConfessionModel" "men" "I") (by decide +kernel)
  replace hl : lv_has ls 4 [(0, .ref (A 0)), (1, .int p1)] := hl
  refine lv_iconst (v := 0) hx hb dX5_crew_0 (by decide) ?_
  refine lv_istore_n (lv' := [(2, .int (0 : Int32)), (0, .ref (A 0)), (1, .int p1)]) hx hb dX5_crew_1 rfl hl (by decide) rfl (fun ls hl => ?_)
  refine lv_iconst (v := 0) hx hb dX5_crew_2 (by decide) ?_
  refine lv_istore_n (lv' := [(3, .int (0 : Int32)), (2, .int (0 : Int32)), (0, .ref (A 0)), (1, .int p1)]) hx hb dX5_crew_3 rfl hl (by decide) rfl (fun ls hl => ?_)
  refine lp_ind (P := fun (q4 : Int32 × Int32) => ∀ (H : Heap) (locs : List Loc) (ls : Array Slot), va_P D vwCl (cM cI A M) H → va_D AA (cM cI A M) → va_S AA s.heap H locs → lv_has ls 4 [(0, .ref (A 0)), (1, .int p1), (2, .int q4.1), (3, .int q4.2)] → W p l e rm_X5_crew s m args below meth c H locs 0 0 Q (F0 m 4 ls [])) hf ?_ H locs ls hP hD hS (lv_sub hl [2, 3, 1, 0] rfl)
  clear hf hP hD hS hl
  intro nx4 ih4 q4 hf H locs ls hP hD hS hl
  refine lv_iload_n hx hb dX5_crew_4 rfl (lv_at hl 3 rfl) ?_
  refine lv_aload_n hx hb dX5_crew_5 rfl (lv_at hl 0 rfl) ?_
  refine va_get (D := D) (ci := 5) (v := .int (M 16 1)) (C := RX5) (T := TX5) (N := 27) hx hb hts hw5 hown hK hP 0 cM_at0 rfl 9 (by decide) k65 (fun _ h9 => h9) rfl dX5_crew_6 ?_
  refine lv_icmp_ge (tgt := 38) hx hb dX5_crew_9 (by decide) (fun c_1 => ?_) (fun c_1 => ?_)
  · replace hf := if_t c_1 hf
    refine lv_iload_n hx hb dX5_crew_38 rfl (lv_at hl 2 rfl) ?_
    exact hend q4.1 H locs _ _ hf hP hS dX5_crew_39
  · replace hf := if_f c_1 hf
    refine lv_iload_n hx hb dX5_crew_12 rfl (lv_at hl 2 rfl) ?_
    refine lv_aload_n hx hb dX5_crew_13 rfl (lv_at hl 0 rfl) ?_
    refine va_get (D := D) (ci := 5) (v := .ref (A 8)) (C := RX5) (T := TX5) (N := 27) hx hb hts hw5 hown hK hP 0 cM_at0 rfl 7 (by decide) k31 (fun _ h9 => h9) rfl dX5_crew_14 ?_
    refine lv_iload_n hx hb dX5_crew_17 rfl (lv_at hl 3 rfl) ?_
    obtain ⟨c_2, hf⟩ := gi_e hf
    refine va_iald hx hb hK hP 8 0 cM_at8 rfl c_2 dX5_crew_18 ?_
    refine lv_iload_n hx hb dX5_crew_19 rfl (lv_at hl 1 rfl) ?_
    refine lv_icmp_ne (tgt := 29) hx hb dX5_crew_20 (by decide) (fun c_3 => ?_) (fun c_3 => ?_)
    · replace hf := if_f c_3 hf
      refine lv_iconst (v := 0) hx hb dX5_crew_29 (by decide) ?_
      refine lv_ior hx hb dX5_crew_30 ?_
      refine lv_topi (fun v_4 ev_4 => ?_)
      replace hf := nm_at ev_4 hf
      refine lv_istore_n (lv' := [(2, .int v_4), (0, .ref (A 0)), (1, .int p1), (3, .int q4.2)]) hx hb dX5_crew_31 rfl hl (by decide) rfl (fun ls hl => ?_)
      obtain ⟨v_5, ev_5, hf⟩ := nq_e hf
      refine lv_iinc (v := v_5) (lv' := [(3, .int v_5), (2, .int v_4), (0, .ref (A 0)), (1, .int p1)]) hx hb dX5_crew_32 hl (k := 3) rfl (by rw [ev_5]; rfl) (by decide) rfl (fun ls hl => ?_)
      refine lv_goto (tgt := 4) hx hb dX5_crew_35 (by decide) ?_
      exact ih4 (v_4, v_5) hf H locs ls hP hD hS (lv_sub hl [2, 3, 1, 0] rfl)
    · replace hf := if_t c_3 hf
      refine lv_iconst (v := 1) hx hb dX5_crew_23 (by decide) ?_
      refine lv_iload_n hx hb dX5_crew_24 rfl (lv_at hl 3 rfl) ?_
      refine lv_ishl hx hb dX5_crew_25 ?_
      refine lv_goto (tgt := 30) hx hb dX5_crew_26 (by decide) ?_
      refine lv_ior hx hb dX5_crew_30 ?_
      refine lv_topi (fun v_6 ev_6 => ?_)
      replace hf := nm_at ev_6 hf
      refine lv_istore_n (lv' := [(2, .int v_6), (0, .ref (A 0)), (1, .int p1), (3, .int q4.2)]) hx hb dX5_crew_31 rfl hl (by decide) rfl (fun ls hl => ?_)
      obtain ⟨v_7, ev_7, hf⟩ := nq_e hf
      refine lv_iinc (v := v_7) (lv' := [(3, .int v_7), (2, .int v_6), (0, .ref (A 0)), (1, .int p1)]) hx hb dX5_crew_32 hl (k := 3) rfl (by rw [ev_7]; rfl) (by decide) rfl (fun ls hl => ?_)
      refine lv_goto (tgt := 4) hx hb dX5_crew_35 (by decide) ?_
      exact ih4 (v_6, v_7) hf H locs ls hP hD hS (lv_sub hl [2, 3, 1, 0] rfl)

def rm_X5_outOnes : Room := { frames := 0, cells := 0, slots := 0, locals := 0 }
theorem hd_X5_outOnes : yX5_outOnes.cls = RX5 ∧ yX5_outOnes.cls ≠ "java/lang/invoke/MethodHandle" ∧ yX5_outOnes.cls ≠ "java/lang/invoke/VarHandle" ∧ (parseMethodDescriptor yX5_outOnes.desc).map (fun d => d.parameters.length) = some 0 := by decide +kernel
set_option maxRecDepth 100000 in
set_option maxHeartbeats 4000000 in
theorem c_X5_outOnes (l : Launch) (D : va_G) (cI : ClassId) (A : Nat → Nat) (M : St) (r : Int32) (hf : f_X5_outOnes M = some r) : Ct l yX5_outOnes wsX5_outOnes rm_X5_outOnes D cI (cM cI A M) (cM cI A M) [.ref (A 0)] (some (.int r)) := by
  unfold f_X5_outOnes at hf
  refine Ct.ofI (cc := cX5_outOnes) (maxL := 3) (by decide +kernel) rfl (Nat.le_of_ble_eq_true rfl) ?_
  intro p e s m args below meth c AA Q H locs ls hx hb hml hown hts hA hK hP hD hS hl hend0
  have hend : ∀ (r1 : Int32) (H : Heap) (locs : List Loc) (pc : Nat) (ls : Array Slot), some r1 = some r → va_P D vwCl (cM cI A M) H → va_S AA s.heap H locs → decode cX5_outOnes pc = .ok (.ireturn, 1) → W p l e rm_X5_outOnes s m args below meth c H locs 0 0 Q (F0 m pc ls [.int r1]) := by
    intro r1 H locs pc ls e1 hP hS hd; cases e1; exact hend0 H locs pc ls hP hS hd
  clear hend0
  have hw5 : ∀ w ∈ wsX50, w ∈ wsX5_outOnes := by decide +kernel
  have k19 := hts (.fieldLink RX5 19 "AnchorsForConfessionModel" "out" "[I") (by decide +kernel)
  have k58 := hts (.fieldLink RX5 58 "AnchorsForConfessionModel" "ships" "I") (by decide +kernel)
  replace hl : lv_has ls 3 [(0, .ref (A 0))] := hl
  refine lv_iconst (v := 0) hx hb dX5_outOnes_0 (by decide) ?_
  refine lv_istore_n (lv' := [(1, .int (0 : Int32)), (0, .ref (A 0))]) hx hb dX5_outOnes_1 rfl hl (by decide) rfl (fun ls hl => ?_)
  refine lv_iconst (v := 0) hx hb dX5_outOnes_2 (by decide) ?_
  refine lv_istore_n (lv' := [(2, .int (0 : Int32)), (1, .int (0 : Int32)), (0, .ref (A 0))]) hx hb dX5_outOnes_3 rfl hl (by decide) rfl (fun ls hl => ?_)
  refine lp_ind (P := fun (q4 : Int32 × Int32) => ∀ (H : Heap) (locs : List Loc) (ls : Array Slot), va_P D vwCl (cM cI A M) H → va_D AA (cM cI A M) → va_S AA s.heap H locs → lv_has ls 3 [(0, .ref (A 0)), (1, .int q4.1), (2, .int q4.2)] → W p l e rm_X5_outOnes s m args below meth c H locs 0 0 Q (F0 m 4 ls [])) hf ?_ H locs ls hP hD hS (lv_sub hl [2, 1, 0] rfl)
  clear hf hP hD hS hl
  intro nx4 ih4 q4 hf H locs ls hP hD hS hl
  refine lv_iload_n hx hb dX5_outOnes_4 rfl (lv_at hl 2 rfl) ?_
  refine lv_aload_n hx hb dX5_outOnes_5 rfl (lv_at hl 0 rfl) ?_
  refine va_get (D := D) (ci := 5) (v := .int (M 16 0)) (C := RX5) (T := TX5) (N := 27) hx hb hts hw5 hown hK hP 0 cM_at0 rfl 8 (by decide) k58 (fun _ h9 => h9) rfl dX5_outOnes_6 ?_
  refine lv_icmp_ge (tgt := 37) hx hb dX5_outOnes_9 (by decide) (fun c_1 => ?_) (fun c_1 => ?_)
  · replace hf := if_t c_1 hf
    refine lv_iload_n hx hb dX5_outOnes_37 rfl (lv_at hl 1 rfl) ?_
    exact hend q4.1 H locs _ _ hf hP hS dX5_outOnes_38
  · replace hf := if_f c_1 hf
    refine lv_iload_n hx hb dX5_outOnes_12 rfl (lv_at hl 1 rfl) ?_
    refine lv_aload_n hx hb dX5_outOnes_13 rfl (lv_at hl 0 rfl) ?_
    refine va_get (D := D) (ci := 5) (v := .ref (A 4)) (C := RX5) (T := TX5) (N := 27) hx hb hts hw5 hown hK hP 0 cM_at0 rfl 3 (by decide) k19 (fun _ h9 => h9) rfl dX5_outOnes_14 ?_
    refine lv_iload_n hx hb dX5_outOnes_17 rfl (lv_at hl 2 rfl) ?_
    obtain ⟨c_2, hf⟩ := gi_e hf
    refine va_iald hx hb hK hP 4 0 cM_at4 rfl c_2 dX5_outOnes_18 ?_
    refine lv_if_le (tgt := 28) hx hb dX5_outOnes_19 (by decide) (fun c_3 => ?_) (fun c_3 => ?_)
    · replace hf := if_t c_3 hf
      refine lv_iconst (v := 0) hx hb dX5_outOnes_28 (by decide) ?_
      refine lv_ior hx hb dX5_outOnes_29 ?_
      refine lv_topi (fun v_4 ev_4 => ?_)
      replace hf := nm_at ev_4 hf
      refine lv_istore_n (lv' := [(1, .int v_4), (0, .ref (A 0)), (2, .int q4.2)]) hx hb dX5_outOnes_30 rfl hl (by decide) rfl (fun ls hl => ?_)
      obtain ⟨v_5, ev_5, hf⟩ := nq_e hf
      refine lv_iinc (v := v_5) (lv' := [(2, .int v_5), (1, .int v_4), (0, .ref (A 0))]) hx hb dX5_outOnes_31 hl (k := 2) rfl (by rw [ev_5]; rfl) (by decide) rfl (fun ls hl => ?_)
      refine lv_goto (tgt := 4) hx hb dX5_outOnes_34 (by decide) ?_
      exact ih4 (v_4, v_5) hf H locs ls hP hD hS (lv_sub hl [2, 1, 0] rfl)
    · replace hf := if_f c_3 hf
      refine lv_iconst (v := 1) hx hb dX5_outOnes_22 (by decide) ?_
      refine lv_iload_n hx hb dX5_outOnes_23 rfl (lv_at hl 2 rfl) ?_
      refine lv_ishl hx hb dX5_outOnes_24 ?_
      refine lv_goto (tgt := 29) hx hb dX5_outOnes_25 (by decide) ?_
      refine lv_ior hx hb dX5_outOnes_29 ?_
      refine lv_topi (fun v_6 ev_6 => ?_)
      replace hf := nm_at ev_6 hf
      refine lv_istore_n (lv' := [(1, .int v_6), (0, .ref (A 0)), (2, .int q4.2)]) hx hb dX5_outOnes_30 rfl hl (by decide) rfl (fun ls hl => ?_)
      obtain ⟨v_7, ev_7, hf⟩ := nq_e hf
      refine lv_iinc (v := v_7) (lv' := [(2, .int v_7), (1, .int v_6), (0, .ref (A 0))]) hx hb dX5_outOnes_31 hl (k := 2) rfl (by rw [ev_7]; rfl) (by decide) rfl (fun ls hl => ?_)
      refine lv_goto (tgt := 4) hx hb dX5_outOnes_34 (by decide) ?_
      exact ih4 (v_6, v_7) hf H locs ls hP hD hS (lv_sub hl [2, 1, 0] rfl)

def rm_X5_allSins : Room := { frames := 0, cells := 0, slots := 0, locals := 0 }
theorem hd_X5_allSins : yX5_allSins.cls = RX5 ∧ yX5_allSins.cls ≠ "java/lang/invoke/MethodHandle" ∧ yX5_allSins.cls ≠ "java/lang/invoke/VarHandle" ∧ (parseMethodDescriptor yX5_allSins.desc).map (fun d => d.parameters.length) = some 0 := by decide +kernel
set_option maxRecDepth 100000 in
set_option maxHeartbeats 4000000 in
theorem c_X5_allSins (l : Launch) (D : va_G) (cI : ClassId) (A : Nat → Nat) (M : St) (r : Int32) (hf : f_X5_allSins M = some r) : Ct l yX5_allSins wsX5_allSins rm_X5_allSins D cI (cM cI A M) (cM cI A M) [.ref (A 0)] (some (.int r)) := by
  unfold f_X5_allSins at hf
  refine Ct.ofI (cc := cX5_allSins) (maxL := 3) (by decide +kernel) rfl (Nat.le_of_ble_eq_true rfl) ?_
  intro p e s m args below meth c AA Q H locs ls hx hb hml hown hts hA hK hP hD hS hl hend0
  have hend : ∀ (r1 : Int32) (H : Heap) (locs : List Loc) (pc : Nat) (ls : Array Slot), some r1 = some r → va_P D vwCl (cM cI A M) H → va_S AA s.heap H locs → decode cX5_allSins pc = .ok (.ireturn, 1) → W p l e rm_X5_allSins s m args below meth c H locs 0 0 Q (F0 m pc ls [.int r1]) := by
    intro r1 H locs pc ls e1 hP hS hd; cases e1; exact hend0 H locs pc ls hP hS hd
  clear hend0
  have hw5 : ∀ w ∈ wsX50, w ∈ wsX5_allSins := by decide +kernel
  have k28 := hts (.fieldLink RX5 28 "AnchorsForConfessionModel" "sins" "[I") (by decide +kernel)
  have k65 := hts (.fieldLink RX5 65 "AnchorsForConfessionModel" "men" "I") (by decide +kernel)
  replace hl : lv_has ls 3 [(0, .ref (A 0))] := hl
  refine lv_iconst (v := 0) hx hb dX5_allSins_0 (by decide) ?_
  refine lv_istore_n (lv' := [(1, .int (0 : Int32)), (0, .ref (A 0))]) hx hb dX5_allSins_1 rfl hl (by decide) rfl (fun ls hl => ?_)
  refine lv_iconst (v := 0) hx hb dX5_allSins_2 (by decide) ?_
  refine lv_istore_n (lv' := [(2, .int (0 : Int32)), (1, .int (0 : Int32)), (0, .ref (A 0))]) hx hb dX5_allSins_3 rfl hl (by decide) rfl (fun ls hl => ?_)
  refine lp_ind (P := fun (q4 : Int32 × Int32) => ∀ (H : Heap) (locs : List Loc) (ls : Array Slot), va_P D vwCl (cM cI A M) H → va_D AA (cM cI A M) → va_S AA s.heap H locs → lv_has ls 3 [(0, .ref (A 0)), (1, .int q4.1), (2, .int q4.2)] → W p l e rm_X5_allSins s m args below meth c H locs 0 0 Q (F0 m 4 ls [])) hf ?_ H locs ls hP hD hS (lv_sub hl [2, 1, 0] rfl)
  clear hf hP hD hS hl
  intro nx4 ih4 q4 hf H locs ls hP hD hS hl
  refine lv_iload_n hx hb dX5_allSins_4 rfl (lv_at hl 2 rfl) ?_
  refine lv_aload_n hx hb dX5_allSins_5 rfl (lv_at hl 0 rfl) ?_
  refine va_get (D := D) (ci := 5) (v := .int (M 16 1)) (C := RX5) (T := TX5) (N := 27) hx hb hts hw5 hown hK hP 0 cM_at0 rfl 9 (by decide) k65 (fun _ h9 => h9) rfl dX5_allSins_6 ?_
  refine lv_icmp_ge (tgt := 27) hx hb dX5_allSins_9 (by decide) (fun c_1 => ?_) (fun c_1 => ?_)
  · replace hf := if_t c_1 hf
    refine lv_iload_n hx hb dX5_allSins_27 rfl (lv_at hl 1 rfl) ?_
    exact hend q4.1 H locs _ _ hf hP hS dX5_allSins_28
  · replace hf := if_f c_1 hf
    refine lv_iload_n hx hb dX5_allSins_12 rfl (lv_at hl 1 rfl) ?_
    refine lv_aload_n hx hb dX5_allSins_13 rfl (lv_at hl 0 rfl) ?_
    refine va_get (D := D) (ci := 5) (v := .ref (A 7)) (C := RX5) (T := TX5) (N := 27) hx hb hts hw5 hown hK hP 0 cM_at0 rfl 6 (by decide) k28 (fun _ h9 => h9) rfl dX5_allSins_14 ?_
    refine lv_iload_n hx hb dX5_allSins_17 rfl (lv_at hl 2 rfl) ?_
    obtain ⟨c_2, hf⟩ := gi_e hf
    refine va_iald hx hb hK hP 7 0 cM_at7 rfl c_2 dX5_allSins_18 ?_
    refine lv_iadd hx hb dX5_allSins_19 ?_
    refine lv_topi (fun v_3 ev_3 => ?_)
    replace hf := nm_at ev_3 hf
    refine lv_istore_n (lv' := [(1, .int v_3), (0, .ref (A 0)), (2, .int q4.2)]) hx hb dX5_allSins_20 rfl hl (by decide) rfl (fun ls hl => ?_)
    obtain ⟨v_4, ev_4, hf⟩ := nq_e hf
    refine lv_iinc (v := v_4) (lv' := [(2, .int v_4), (1, .int v_3), (0, .ref (A 0))]) hx hb dX5_allSins_21 hl (k := 2) rfl (by rw [ev_4]; rfl) (by decide) rfl (fun ls hl => ?_)
    refine lv_goto (tgt := 4) hx hb dX5_allSins_24 (by decide) ?_
    exact ih4 (v_3, v_4) hf H locs ls hP hD hS (lv_sub hl [2, 1, 0] rfl)

def rm_X5_ship : Room := { frames := 3, cells := 0, slots := 0, locals := 69 }
theorem hd_X5_ship : yX5_ship.cls = RX5 ∧ yX5_ship.cls ≠ "java/lang/invoke/MethodHandle" ∧ yX5_ship.cls ≠ "java/lang/invoke/VarHandle" ∧ (parseMethodDescriptor yX5_ship.desc).map (fun d => d.parameters.length) = some 2 := by decide +kernel
set_option maxRecDepth 100000 in
set_option maxHeartbeats 4000000 in
theorem c_X5_ship (l : Launch) (D : va_G) (cI : ClassId) (A : Nat → Nat) (M : St) (p1 : Int32) (p2 : Int32) (r : Int32 × St) (hf : f_X5_ship M p1 p2 = some r) : Ct l yX5_ship wsX5_ship rm_X5_ship D cI (cM cI A M) (cM cI A r.2) [.ref (A 0), .int p1, .int p2] (some (.int r.1)) := by
  unfold f_X5_ship at hf
  refine Ct.ofI (cc := cX5_ship) (maxL := 3) (by decide +kernel) rfl (Nat.le_of_ble_eq_true rfl) ?_
  intro p e s m args below meth c AA Q H locs ls hx hb hml hown hts hA hK hP hD hS hl hend0
  have hend : ∀ (r1 : Int32 × St) (H : Heap) (locs : List Loc) (pc : Nat) (ls : Array Slot), some r1 = some r → va_P D vwCl (cM cI A r1.2) H → va_S AA s.heap H locs → decode cX5_ship pc = .ok (.ireturn, 1) → W p l e rm_X5_ship s m args below meth c H locs 0 0 Q (F0 m pc ls [.int r1.1]) := by
    intro r1 H locs pc ls e1 hP hS hd; cases e1; exact hend0 H locs pc ls hP hS hd
  clear hend0
  have hw5 : ∀ w ∈ wsX50, w ∈ wsX5_ship := by decide +kernel
  have k13 := hts (.fieldLink RX5 13 "AnchorsForConfessionModel" "heavy" "[I") (by decide +kernel)
  have k16 := hts (.fieldLink RX5 16 "AnchorsForConfessionModel" "loose" "[I") (by decide +kernel)
  have k19 := hts (.fieldLink RX5 19 "AnchorsForConfessionModel" "out" "[I") (by decide +kernel)
  replace hl : lv_has ls 3 [(0, .ref (A 0)), (1, .int p1), (2, .int p2)] := hl
  refine lv_aload_n hx hb dX5_ship_0 rfl (lv_at hl 0 rfl) ?_
  refine lv_iload_n hx hb dX5_ship_1 rfl (lv_at hl 1 rfl) ?_
  obtain ⟨a_1, ha_1, hf⟩ := bd_e hf
  refine Ct.callV (As := [.int p1]) (rest := []) (st1 := [.int a_1]) (c_X5_isShip l D cI A M p1 a_1 ha_1) hx hb hml hown hts (cwV 1 hts gX5_ship_X5_isShip rfl rfl rfl hd_X5_isShip ⟨Nat.le_of_ble_eq_true rfl, Nat.le_of_ble_eq_true rfl⟩) (va_recv hK hP (ci := 5) (q0 := 0) rfl cM_at0) (Ln.id rfl) hA hK hP hD hS rfl hl.1 rfl rfl (Nat.le_of_ble_eq_true rfl) dX5_ship_2 (fun H locs hP hD hS => ?_)
  refine lv_if_ne (tgt := 14) hx hb dX5_ship_5 (by decide) (fun c_2 => ?_) (fun c_2 => ?_)
  · replace hf := if_f c_2 hf
    refine lv_iload_n hx hb dX5_ship_14 rfl (lv_at hl 2 rfl) ?_
    by_cases c_3 : p2 = 0
    · replace hf := if_t c_3 hf
      refine lv_tableIn (off := 41) (tgt := 56) hx hb dX5_ship_15 (by rw [c_3]; decide +kernel) (by rw [c_3]; decide +kernel) (by rw [c_3]; decide +kernel) (by decide) ?_
      refine lv_aload_n hx hb dX5_ship_56 rfl (lv_at hl 0 rfl) ?_
      refine va_get (D := D) (ci := 5) (v := .ref (A 2)) (C := RX5) (T := TX5) (N := 27) hx hb hts hw5 hown hK hP 0 cM_at0 rfl 1 (by decide) k13 (fun _ h9 => h9) rfl dX5_ship_57 ?_
      refine lv_iload_n hx hb dX5_ship_60 rfl (lv_at hl 1 rfl) ?_
      obtain ⟨c_4, hf⟩ := gi_e hf
      refine va_iald hx hb hK hP 2 0 cM_at2 rfl c_4 dX5_ship_61 ?_
      exact hend ((M 1 (p1).toNatClampNeg), M) H locs _ _ hf hP hS dX5_ship_62
    · replace hf := if_f c_3 hf
      by_cases c_5 : p2 = 1
      · replace hf := if_t c_5 hf
        refine lv_tableIn (off := 48) (tgt := 63) hx hb dX5_ship_15 (by rw [c_5]; decide +kernel) (by rw [c_5]; decide +kernel) (by rw [c_5]; decide +kernel) (by decide) ?_
        refine lv_aload_n hx hb dX5_ship_63 rfl (lv_at hl 0 rfl) ?_
        refine va_get (D := D) (ci := 5) (v := .ref (A 3)) (C := RX5) (T := TX5) (N := 27) hx hb hts hw5 hown hK hP 0 cM_at0 rfl 2 (by decide) k16 (fun _ h9 => h9) rfl dX5_ship_64 ?_
        refine lv_iload_n hx hb dX5_ship_67 rfl (lv_at hl 1 rfl) ?_
        obtain ⟨c_6, hf⟩ := gi_e hf
        refine va_iald hx hb hK hP 3 0 cM_at3 rfl c_6 dX5_ship_68 ?_
        exact hend ((M 2 (p1).toNatClampNeg), M) H locs _ _ hf hP hS dX5_ship_69
      · replace hf := if_f c_5 hf
        by_cases c_7 : p2 = 2
        · replace hf := if_t c_7 hf
          refine lv_tableIn (off := 55) (tgt := 70) hx hb dX5_ship_15 (by rw [c_7]; decide +kernel) (by rw [c_7]; decide +kernel) (by rw [c_7]; decide +kernel) (by decide) ?_
          refine lv_aload_n hx hb dX5_ship_70 rfl (lv_at hl 0 rfl) ?_
          refine va_get (D := D) (ci := 5) (v := .ref (A 4)) (C := RX5) (T := TX5) (N := 27) hx hb hts hw5 hown hK hP 0 cM_at0 rfl 3 (by decide) k19 (fun _ h9 => h9) rfl dX5_ship_71 ?_
          refine lv_iload_n hx hb dX5_ship_74 rfl (lv_at hl 1 rfl) ?_
          obtain ⟨c_8, hf⟩ := gi_e hf
          refine va_iald hx hb hK hP 4 0 cM_at4 rfl c_8 dX5_ship_75 ?_
          exact hend ((M 3 (p1).toNatClampNeg), M) H locs _ _ hf hP hS dX5_ship_76
        · replace hf := if_f c_7 hf
          by_cases c_9 : p2 = 3
          · replace hf := if_t c_9 hf
            refine lv_tableIn (off := 62) (tgt := 77) hx hb dX5_ship_15 (by rw [c_9]; decide +kernel) (by rw [c_9]; decide +kernel) (by rw [c_9]; decide +kernel) (by decide) ?_
            refine lv_aload_n hx hb dX5_ship_77 rfl (lv_at hl 0 rfl) ?_
            refine lv_iload_n hx hb dX5_ship_78 rfl (lv_at hl 1 rfl) ?_
            obtain ⟨a_10, ha_10, hf⟩ := bd_e hf
            refine Ct.callV (As := [.int p1]) (rest := []) (st1 := [.int a_10]) (c_X5_holds l D cI A M p1 a_10 ha_10) hx hb hml hown hts (cwV 1 hts gX5_ship_X5_holds rfl rfl rfl hd_X5_holds ⟨Nat.le_of_ble_eq_true rfl, Nat.le_of_ble_eq_true rfl⟩) (va_recv hK hP (ci := 5) (q0 := 0) rfl cM_at0) (Ln.id rfl) hA hK hP hD hS rfl hl.1 rfl rfl (Nat.le_of_ble_eq_true rfl) dX5_ship_79 (fun H locs hP hD hS => ?_)
            exact hend (a_10, M) H locs _ _ hf hP hS dX5_ship_82
          · replace hf := if_f c_9 hf
            by_cases c_11 : p2 = 4
            · replace hf := if_t c_11 hf
              refine lv_tableIn (off := 68) (tgt := 83) hx hb dX5_ship_15 (by rw [c_11]; decide +kernel) (by rw [c_11]; decide +kernel) (by rw [c_11]; decide +kernel) (by decide) ?_
              refine lv_aload_n hx hb dX5_ship_83 rfl (lv_at hl 0 rfl) ?_
              refine lv_iload_n hx hb dX5_ship_84 rfl (lv_at hl 1 rfl) ?_
              obtain ⟨a_12, ha_12, hf⟩ := bd_e hf
              refine Ct.callV (As := [.int p1]) (rest := []) (st1 := [.int a_12]) (c_X5_lacks l D cI A M p1 a_12 ha_12) hx hb hml hown hts (cwV 1 hts gX5_ship_X5_lacks rfl rfl rfl hd_X5_lacks ⟨Nat.le_of_ble_eq_true rfl, Nat.le_of_ble_eq_true rfl⟩) (va_recv hK hP (ci := 5) (q0 := 0) rfl cM_at0) (Ln.id rfl) hA hK hP hD hS rfl hl.1 rfl rfl (Nat.le_of_ble_eq_true rfl) dX5_ship_85 (fun H locs hP hD hS => ?_)
              exact hend (a_12, M) H locs _ _ hf hP hS dX5_ship_88
            · replace hf := if_f c_11 hf
              by_cases c_13 : p2 = 5
              · replace hf := if_t c_13 hf
                refine lv_tableIn (off := 74) (tgt := 89) hx hb dX5_ship_15 (by rw [c_13]; decide +kernel) (by rw [c_13]; decide +kernel) (by rw [c_13]; decide +kernel) (by decide) ?_
                refine lv_aload_n hx hb dX5_ship_89 rfl (lv_at hl 0 rfl) ?_
                refine lv_iload_n hx hb dX5_ship_90 rfl (lv_at hl 1 rfl) ?_
                obtain ⟨a_14, ha_14, hf⟩ := bd_e hf
                refine Ct.callV (As := [.int p1]) (rest := []) (st1 := [.int a_14]) (c_X5_pool l D cI A M p1 a_14 ha_14) hx hb hml hown hts (cwV 1 hts gX5_ship_X5_pool rfl rfl rfl hd_X5_pool ⟨Nat.le_of_ble_eq_true rfl, Nat.le_of_ble_eq_true rfl⟩) (va_recv hK hP (ci := 5) (q0 := 0) rfl cM_at0) (Ln.id rfl) hA hK hP hD hS rfl hl.1 rfl rfl (Nat.le_of_ble_eq_true rfl) dX5_ship_91 (fun H locs hP hD hS => ?_)
                exact hend (a_14, M) H locs _ _ hf hP hS dX5_ship_94
              · replace hf := if_f c_13 hf
                by_cases c_15 : p2 = 6
                · replace hf := if_t c_15 hf
                  refine lv_tableIn (off := 80) (tgt := 95) hx hb dX5_ship_15 (by rw [c_15]; decide +kernel) (by rw [c_15]; decide +kernel) (by rw [c_15]; decide +kernel) (by decide) ?_
                  refine lv_aload_n hx hb dX5_ship_95 rfl (lv_at hl 0 rfl) ?_
                  refine lv_iload_n hx hb dX5_ship_96 rfl (lv_at hl 1 rfl) ?_
                  obtain ⟨a_16, ha_16, hf⟩ := bd_e hf
                  refine Ct.callV (As := [.int p1]) (rest := []) (st1 := [.int a_16]) (c_X5_crew l D cI A M p1 a_16 ha_16) hx hb hml hown hts (cwV 1 hts gX5_ship_X5_crew rfl rfl rfl hd_X5_crew ⟨Nat.le_of_ble_eq_true rfl, Nat.le_of_ble_eq_true rfl⟩) (va_recv hK hP (ci := 5) (q0 := 0) rfl cM_at0) (Ln.id rfl) hA hK hP hD hS rfl hl.1 rfl rfl (Nat.le_of_ble_eq_true rfl) dX5_ship_97 (fun H locs hP hD hS => ?_)
                  exact hend (a_16, M) H locs _ _ hf hP hS dX5_ship_100
                · replace hf := if_f c_15 hf
                  have ht : (p2).toInt < 0 ∨ 6 < (p2).toInt := by
                    have t0 := lv_neT (a := 0) c_3 (by decide +kernel)
                    have t1 := lv_neT (a := 1) c_5 (by decide +kernel)
                    have t2 := lv_neT (a := 2) c_7 (by decide +kernel)
                    have t3 := lv_neT (a := 3) c_9 (by decide +kernel)
                    have t4 := lv_neT (a := 4) c_11 (by decide +kernel)
                    have t5 := lv_neT (a := 5) c_13 (by decide +kernel)
                    have t6 := lv_neT (a := 6) c_15 (by decide +kernel)
                    omega
                  refine lv_tableOut (tgt := 101) hx hb dX5_ship_15 ht (by decide) ?_
                  refine lv_aload_n hx hb dX5_ship_101 rfl (lv_at hl 0 rfl) ?_
                  refine lv_bipush (v := -2) hx hb dX5_ship_102 (by decide +kernel) ?_
                  obtain ⟨a_17, ha_17, hf⟩ := bd_e hf
                  refine Ct.callV (As := [.int (-2 : Int32)]) (rest := []) (st1 := [.int a_17.1]) (c_X5_no l D cI A M (-2 : Int32) a_17 ha_17) hx hb hml hown hts (cwV 1 hts gX5_ship_X5_no rfl rfl rfl hd_X5_no ⟨Nat.le_of_ble_eq_true rfl, Nat.le_of_ble_eq_true rfl⟩) (va_recv hK hP (ci := 5) (q0 := 0) rfl cM_at0) (Ln.id rfl) hA hK hP hD hS rfl hl.1 rfl rfl (Nat.le_of_ble_eq_true rfl) dX5_ship_104 (fun H locs hP hD hS => ?_)
                  replace hP : va_P D vwCl (cM cI A a_17.2) H := hP
                  replace hD : va_D AA (cM cI A a_17.2) := hD
                  exact hend (a_17.1, a_17.2) H locs _ _ hf hP hS dX5_ship_107
  · replace hf := if_t c_2 hf
    refine lv_aload_n hx hb dX5_ship_8 rfl (lv_at hl 0 rfl) ?_
    refine lv_iconst (v := -1) hx hb dX5_ship_9 (by decide) ?_
    obtain ⟨a_18, ha_18, hf⟩ := bd_e hf
    refine Ct.callV (As := [.int (-1 : Int32)]) (rest := []) (st1 := [.int a_18.1]) (c_X5_no l D cI A M (-1 : Int32) a_18 ha_18) hx hb hml hown hts (cwV 1 hts gX5_ship_X5_no rfl rfl rfl hd_X5_no ⟨Nat.le_of_ble_eq_true rfl, Nat.le_of_ble_eq_true rfl⟩) (va_recv hK hP (ci := 5) (q0 := 0) rfl cM_at0) (Ln.id rfl) hA hK hP hD hS rfl hl.1 rfl rfl (Nat.le_of_ble_eq_true rfl) dX5_ship_10 (fun H locs hP hD hS => ?_)
    replace hP : va_P D vwCl (cM cI A a_18.2) H := hP
    replace hD : va_D AA (cM cI A a_18.2) := hD
    exact hend (a_18.1, a_18.2) H locs _ _ hf hP hS dX5_ship_13

def rm_X5_man : Room := { frames := 3, cells := 0, slots := 0, locals := 66 }
theorem hd_X5_man : yX5_man.cls = RX5 ∧ yX5_man.cls ≠ "java/lang/invoke/MethodHandle" ∧ yX5_man.cls ≠ "java/lang/invoke/VarHandle" ∧ (parseMethodDescriptor yX5_man.desc).map (fun d => d.parameters.length) = some 2 := by decide +kernel
set_option maxRecDepth 100000 in
set_option maxHeartbeats 4000000 in
theorem c_X5_man (l : Launch) (D : va_G) (cI : ClassId) (A : Nat → Nat) (M : St) (p1 : Int32) (p2 : Int32) (r : Int32 × St) (hf : f_X5_man M p1 p2 = some r) : Ct l yX5_man wsX5_man rm_X5_man D cI (cM cI A M) (cM cI A r.2) [.ref (A 0), .int p1, .int p2] (some (.int r.1)) := by
  unfold f_X5_man at hf
  refine Ct.ofI (cc := cX5_man) (maxL := 3) (by decide +kernel) rfl (Nat.le_of_ble_eq_true rfl) ?_
  intro p e s m args below meth c AA Q H locs ls hx hb hml hown hts hA hK hP hD hS hl hend0
  have hend : ∀ (r1 : Int32 × St) (H : Heap) (locs : List Loc) (pc : Nat) (ls : Array Slot), some r1 = some r → va_P D vwCl (cM cI A r1.2) H → va_S AA s.heap H locs → decode cX5_man pc = .ok (.ireturn, 1) → W p l e rm_X5_man s m args below meth c H locs 0 0 Q (F0 m pc ls [.int r1.1]) := by
    intro r1 H locs pc ls e1 hP hS hd; cases e1; exact hend0 H locs pc ls hP hS hd
  clear hend0
  have hw5 : ∀ w ∈ wsX50, w ∈ wsX5_man := by decide +kernel
  have k22 := hts (.fieldLink RX5 22 "AnchorsForConfessionModel" "kind" "[I") (by decide +kernel)
  have k25 := hts (.fieldLink RX5 25 "AnchorsForConfessionModel" "figure" "[I") (by decide +kernel)
  have k28 := hts (.fieldLink RX5 28 "AnchorsForConfessionModel" "sins" "[I") (by decide +kernel)
  have k31 := hts (.fieldLink RX5 31 "AnchorsForConfessionModel" "aboard" "[I") (by decide +kernel)
  replace hl : lv_has ls 3 [(0, .ref (A 0)), (1, .int p1), (2, .int p2)] := hl
  refine lv_aload_n hx hb dX5_man_0 rfl (lv_at hl 0 rfl) ?_
  refine lv_iload_n hx hb dX5_man_1 rfl (lv_at hl 1 rfl) ?_
  obtain ⟨a_1, ha_1, hf⟩ := bd_e hf
  refine Ct.callV (As := [.int p1]) (rest := []) (st1 := [.int a_1]) (c_X5_isMan l D cI A M p1 a_1 ha_1) hx hb hml hown hts (cwV 1 hts gX5_man_X5_isMan rfl rfl rfl hd_X5_isMan ⟨Nat.le_of_ble_eq_true rfl, Nat.le_of_ble_eq_true rfl⟩) (va_recv hK hP (ci := 5) (q0 := 0) rfl cM_at0) (Ln.id rfl) hA hK hP hD hS rfl hl.1 rfl rfl (Nat.le_of_ble_eq_true rfl) dX5_man_2 (fun H locs hP hD hS => ?_)
  refine lv_if_ne (tgt := 14) hx hb dX5_man_5 (by decide) (fun c_2 => ?_) (fun c_2 => ?_)
  · replace hf := if_f c_2 hf
    refine lv_iload_n hx hb dX5_man_14 rfl (lv_at hl 2 rfl) ?_
    by_cases c_3 : p2 = 0
    · replace hf := if_t c_3 hf
      refine lv_tableIn (off := 41) (tgt := 56) hx hb dX5_man_15 (by rw [c_3]; decide +kernel) (by rw [c_3]; decide +kernel) (by rw [c_3]; decide +kernel) (by decide) ?_
      refine lv_aload_n hx hb dX5_man_56 rfl (lv_at hl 0 rfl) ?_
      refine va_get (D := D) (ci := 5) (v := .ref (A 5)) (C := RX5) (T := TX5) (N := 27) hx hb hts hw5 hown hK hP 0 cM_at0 rfl 4 (by decide) k22 (fun _ h9 => h9) rfl dX5_man_57 ?_
      refine lv_iload_n hx hb dX5_man_60 rfl (lv_at hl 1 rfl) ?_
      obtain ⟨c_4, hf⟩ := gi_e hf
      refine va_iald hx hb hK hP 5 0 cM_at5 rfl c_4 dX5_man_61 ?_
      exact hend ((M 4 (p1).toNatClampNeg), M) H locs _ _ hf hP hS dX5_man_62
    · replace hf := if_f c_3 hf
      by_cases c_5 : p2 = 1
      · replace hf := if_t c_5 hf
        refine lv_tableIn (off := 48) (tgt := 63) hx hb dX5_man_15 (by rw [c_5]; decide +kernel) (by rw [c_5]; decide +kernel) (by rw [c_5]; decide +kernel) (by decide) ?_
        refine lv_aload_n hx hb dX5_man_63 rfl (lv_at hl 0 rfl) ?_
        refine va_get (D := D) (ci := 5) (v := .ref (A 6)) (C := RX5) (T := TX5) (N := 27) hx hb hts hw5 hown hK hP 0 cM_at0 rfl 5 (by decide) k25 (fun _ h9 => h9) rfl dX5_man_64 ?_
        refine lv_iload_n hx hb dX5_man_67 rfl (lv_at hl 1 rfl) ?_
        obtain ⟨c_6, hf⟩ := gi_e hf
        refine va_iald hx hb hK hP 6 0 cM_at6 rfl c_6 dX5_man_68 ?_
        exact hend ((M 5 (p1).toNatClampNeg), M) H locs _ _ hf hP hS dX5_man_69
      · replace hf := if_f c_5 hf
        by_cases c_7 : p2 = 2
        · replace hf := if_t c_7 hf
          refine lv_tableIn (off := 55) (tgt := 70) hx hb dX5_man_15 (by rw [c_7]; decide +kernel) (by rw [c_7]; decide +kernel) (by rw [c_7]; decide +kernel) (by decide) ?_
          refine lv_aload_n hx hb dX5_man_70 rfl (lv_at hl 0 rfl) ?_
          refine va_get (D := D) (ci := 5) (v := .ref (A 7)) (C := RX5) (T := TX5) (N := 27) hx hb hts hw5 hown hK hP 0 cM_at0 rfl 6 (by decide) k28 (fun _ h9 => h9) rfl dX5_man_71 ?_
          refine lv_iload_n hx hb dX5_man_74 rfl (lv_at hl 1 rfl) ?_
          obtain ⟨c_8, hf⟩ := gi_e hf
          refine va_iald hx hb hK hP 7 0 cM_at7 rfl c_8 dX5_man_75 ?_
          exact hend ((M 6 (p1).toNatClampNeg), M) H locs _ _ hf hP hS dX5_man_76
        · replace hf := if_f c_7 hf
          by_cases c_9 : p2 = 3
          · replace hf := if_t c_9 hf
            refine lv_tableIn (off := 62) (tgt := 77) hx hb dX5_man_15 (by rw [c_9]; decide +kernel) (by rw [c_9]; decide +kernel) (by rw [c_9]; decide +kernel) (by decide) ?_
            refine lv_aload_n hx hb dX5_man_77 rfl (lv_at hl 0 rfl) ?_
            refine va_get (D := D) (ci := 5) (v := .ref (A 8)) (C := RX5) (T := TX5) (N := 27) hx hb hts hw5 hown hK hP 0 cM_at0 rfl 7 (by decide) k31 (fun _ h9 => h9) rfl dX5_man_78 ?_
            refine lv_iload_n hx hb dX5_man_81 rfl (lv_at hl 1 rfl) ?_
            obtain ⟨c_10, hf⟩ := gi_e hf
            refine va_iald hx hb hK hP 8 0 cM_at8 rfl c_10 dX5_man_82 ?_
            exact hend ((M 7 (p1).toNatClampNeg), M) H locs _ _ hf hP hS dX5_man_83
          · replace hf := if_f c_9 hf
            by_cases c_11 : p2 = 4
            · replace hf := if_t c_11 hf
              refine lv_tableIn (off := 69) (tgt := 84) hx hb dX5_man_15 (by rw [c_11]; decide +kernel) (by rw [c_11]; decide +kernel) (by rw [c_11]; decide +kernel) (by decide) ?_
              refine lv_aload_n hx hb dX5_man_84 rfl (lv_at hl 0 rfl) ?_
              refine lv_iload_n hx hb dX5_man_85 rfl (lv_at hl 1 rfl) ?_
              obtain ⟨a_12, ha_12, hf⟩ := bd_e hf
              refine Ct.callV (As := [.int p1]) (rest := []) (st1 := [.int a_12]) (c_X5_worth l D cI A M p1 a_12 ha_12) hx hb hml hown hts (cwV 1 hts gX5_man_X5_worth rfl rfl rfl hd_X5_worth ⟨Nat.le_of_ble_eq_true rfl, Nat.le_of_ble_eq_true rfl⟩) (va_recv hK hP (ci := 5) (q0 := 0) rfl cM_at0) (Ln.id rfl) hA hK hP hD hS rfl hl.1 rfl rfl (Nat.le_of_ble_eq_true rfl) dX5_man_86 (fun H locs hP hD hS => ?_)
              exact hend (a_12, M) H locs _ _ hf hP hS dX5_man_89
            · replace hf := if_f c_11 hf
              by_cases c_13 : p2 = 5
              · replace hf := if_t c_13 hf
                refine lv_tableIn (off := 75) (tgt := 90) hx hb dX5_man_15 (by rw [c_13]; decide +kernel) (by rw [c_13]; decide +kernel) (by rw [c_13]; decide +kernel) (by decide) ?_
                refine lv_aload_n hx hb dX5_man_90 rfl (lv_at hl 0 rfl) ?_
                refine lv_iload_n hx hb dX5_man_91 rfl (lv_at hl 1 rfl) ?_
                obtain ⟨a_14, ha_14, hf⟩ := bd_e hf
                refine Ct.callV (As := [.int p1]) (rest := []) (st1 := [.int a_14]) (c_X5_heardOf l D cI A M p1 a_14 ha_14) hx hb hml hown hts (cwV 1 hts gX5_man_X5_heardOf rfl rfl rfl hd_X5_heardOf ⟨Nat.le_of_ble_eq_true rfl, Nat.le_of_ble_eq_true rfl⟩) (va_recv hK hP (ci := 5) (q0 := 0) rfl cM_at0) (Ln.id rfl) hA hK hP hD hS rfl hl.1 rfl rfl (Nat.le_of_ble_eq_true rfl) dX5_man_92 (fun H locs hP hD hS => ?_)
                exact hend (a_14, M) H locs _ _ hf hP hS dX5_man_95
              · replace hf := if_f c_13 hf
                by_cases c_15 : p2 = 6
                · replace hf := if_t c_15 hf
                  refine lv_tableIn (off := 81) (tgt := 96) hx hb dX5_man_15 (by rw [c_15]; decide +kernel) (by rw [c_15]; decide +kernel) (by rw [c_15]; decide +kernel) (by decide) ?_
                  refine lv_aload_n hx hb dX5_man_96 rfl (lv_at hl 0 rfl) ?_
                  refine lv_iload_n hx hb dX5_man_97 rfl (lv_at hl 1 rfl) ?_
                  obtain ⟨a_16, ha_16, hf⟩ := bd_e hf
                  refine Ct.callV (As := [.int p1]) (rest := []) (st1 := [.int a_16]) (c_X5_canTell l D cI A M p1 a_16 ha_16) hx hb hml hown hts (cwV 1 hts gX5_man_X5_canTell rfl rfl rfl hd_X5_canTell ⟨Nat.le_of_ble_eq_true rfl, Nat.le_of_ble_eq_true rfl⟩) (va_recv hK hP (ci := 5) (q0 := 0) rfl cM_at0) (Ln.id rfl) hA hK hP hD hS rfl hl.1 rfl rfl (Nat.le_of_ble_eq_true rfl) dX5_man_98 (fun H locs hP hD hS => ?_)
                  refine lv_if_eq (tgt := 108) hx hb dX5_man_101 (by decide) (fun c_17 => ?_) (fun c_17 => ?_)
                  · replace hf := if_t c_17 hf
                    refine lv_iconst (v := 0) hx hb dX5_man_108 (by decide) ?_
                    exact hend ((0 : Int32), M) H locs _ _ hf hP hS dX5_man_109
                  · replace hf := if_f c_17 hf
                    refine lv_iconst (v := 1) hx hb dX5_man_104 (by decide) ?_
                    refine lv_goto (tgt := 109) hx hb dX5_man_105 (by decide) ?_
                    exact hend ((1 : Int32), M) H locs _ _ hf hP hS dX5_man_109
                · replace hf := if_f c_15 hf
                  have ht : (p2).toInt < 0 ∨ 6 < (p2).toInt := by
                    have t0 := lv_neT (a := 0) c_3 (by decide +kernel)
                    have t1 := lv_neT (a := 1) c_5 (by decide +kernel)
                    have t2 := lv_neT (a := 2) c_7 (by decide +kernel)
                    have t3 := lv_neT (a := 3) c_9 (by decide +kernel)
                    have t4 := lv_neT (a := 4) c_11 (by decide +kernel)
                    have t5 := lv_neT (a := 5) c_13 (by decide +kernel)
                    have t6 := lv_neT (a := 6) c_15 (by decide +kernel)
                    omega
                  refine lv_tableOut (tgt := 110) hx hb dX5_man_15 ht (by decide) ?_
                  refine lv_aload_n hx hb dX5_man_110 rfl (lv_at hl 0 rfl) ?_
                  refine lv_bipush (v := -2) hx hb dX5_man_111 (by decide +kernel) ?_
                  obtain ⟨a_18, ha_18, hf⟩ := bd_e hf
                  refine Ct.callV (As := [.int (-2 : Int32)]) (rest := []) (st1 := [.int a_18.1]) (c_X5_no l D cI A M (-2 : Int32) a_18 ha_18) hx hb hml hown hts (cwV 1 hts gX5_man_X5_no rfl rfl rfl hd_X5_no ⟨Nat.le_of_ble_eq_true rfl, Nat.le_of_ble_eq_true rfl⟩) (va_recv hK hP (ci := 5) (q0 := 0) rfl cM_at0) (Ln.id rfl) hA hK hP hD hS rfl hl.1 rfl rfl (Nat.le_of_ble_eq_true rfl) dX5_man_113 (fun H locs hP hD hS => ?_)
                  replace hP : va_P D vwCl (cM cI A a_18.2) H := hP
                  replace hD : va_D AA (cM cI A a_18.2) := hD
                  exact hend (a_18.1, a_18.2) H locs _ _ hf hP hS dX5_man_116
  · replace hf := if_t c_2 hf
    refine lv_aload_n hx hb dX5_man_8 rfl (lv_at hl 0 rfl) ?_
    refine lv_iconst (v := -1) hx hb dX5_man_9 (by decide) ?_
    obtain ⟨a_19, ha_19, hf⟩ := bd_e hf
    refine Ct.callV (As := [.int (-1 : Int32)]) (rest := []) (st1 := [.int a_19.1]) (c_X5_no l D cI A M (-1 : Int32) a_19 ha_19) hx hb hml hown hts (cwV 1 hts gX5_man_X5_no rfl rfl rfl hd_X5_no ⟨Nat.le_of_ble_eq_true rfl, Nat.le_of_ble_eq_true rfl⟩) (va_recv hK hP (ci := 5) (q0 := 0) rfl cM_at0) (Ln.id rfl) hA hK hP hD hS rfl hl.1 rfl rfl (Nat.le_of_ble_eq_true rfl) dX5_man_10 (fun H locs hP hD hS => ?_)
    replace hP : va_P D vwCl (cM cI A a_19.2) H := hP
    replace hD : va_D AA (cM cI A a_19.2) := hD
    exact hend (a_19.1, a_19.2) H locs _ _ hf hP hS dX5_man_13

def rm_X5_tells : Room := { frames := 4, cells := 0, slots := 0, locals := 88 }
theorem hd_X5_tells : yX5_tells.cls = RX5 ∧ yX5_tells.cls ≠ "java/lang/invoke/MethodHandle" ∧ yX5_tells.cls ≠ "java/lang/invoke/VarHandle" ∧ (parseMethodDescriptor yX5_tells.desc).map (fun d => d.parameters.length) = some 1 := by decide +kernel
set_option maxRecDepth 100000 in
set_option maxHeartbeats 4000000 in
theorem c_X5_tells (l : Launch) (D : va_G) (cI : ClassId) (A : Nat → Nat) (M : St) (p1 : Int32) (r : Int32 × St) (hf : f_X5_tells M p1 = some r) : Ct l yX5_tells wsX5_tells rm_X5_tells D cI (cM cI A M) (cM cI A r.2) [.ref (A 0), .int p1] (some (.int r.1)) := by
  unfold f_X5_tells at hf
  refine Ct.ofI (cc := cX5_tells) (maxL := 3) (by decide +kernel) rfl (Nat.le_of_ble_eq_true rfl) ?_
  intro p e s m args below meth c AA Q H locs ls hx hb hml hown hts hA hK hP hD hS hl hend0
  have hend : ∀ (r1 : Int32 × St) (H : Heap) (locs : List Loc) (pc : Nat) (ls : Array Slot), some r1 = some r → va_P D vwCl (cM cI A r1.2) H → va_S AA s.heap H locs → decode cX5_tells pc = .ok (.ireturn, 1) → W p l e rm_X5_tells s m args below meth c H locs 0 0 Q (F0 m pc ls [.int r1.1]) := by
    intro r1 H locs pc ls e1 hP hS hd; cases e1; exact hend0 H locs pc ls hP hS hd
  clear hend0
  replace hl : lv_has ls 3 [(0, .ref (A 0)), (1, .int p1)] := hl
  refine lv_aload_n hx hb dX5_tells_0 rfl (lv_at hl 0 rfl) ?_
  refine lv_iload_n hx hb dX5_tells_1 rfl (lv_at hl 1 rfl) ?_
  obtain ⟨a_1, ha_1, hf⟩ := bd_e hf
  refine Ct.callV (As := [.int p1]) (rest := []) (st1 := [.int a_1]) (c_X5_isMan l D cI A M p1 a_1 ha_1) hx hb hml hown hts (cwV 1 hts gX5_tells_X5_isMan rfl rfl rfl hd_X5_isMan ⟨Nat.le_of_ble_eq_true rfl, Nat.le_of_ble_eq_true rfl⟩) (va_recv hK hP (ci := 5) (q0 := 0) rfl cM_at0) (Ln.id rfl) hA hK hP hD hS rfl hl.1 rfl rfl (Nat.le_of_ble_eq_true rfl) dX5_tells_2 (fun H locs hP hD hS => ?_)
  refine lv_if_ne (tgt := 12) hx hb dX5_tells_5 (by decide) (fun c_2 => ?_) (fun c_2 => ?_)
  · replace hf := if_f c_2 hf
    refine lv_aload_n hx hb dX5_tells_12 rfl (lv_at hl 0 rfl) ?_
    refine lv_iload_n hx hb dX5_tells_13 rfl (lv_at hl 1 rfl) ?_
    obtain ⟨a_3, ha_3, hf⟩ := bd_e hf
    refine Ct.callV (As := [.int p1]) (rest := []) (st1 := [.int a_3]) (c_X5_canTell l D cI A M p1 a_3 ha_3) hx hb hml hown hts (cwV 1 hts gX5_tells_X5_canTell rfl rfl rfl hd_X5_canTell ⟨Nat.le_of_ble_eq_true rfl, Nat.le_of_ble_eq_true rfl⟩) (va_recv hK hP (ci := 5) (q0 := 0) rfl cM_at0) (Ln.id rfl) hA hK hP hD hS rfl hl.1 rfl rfl (Nat.le_of_ble_eq_true rfl) dX5_tells_14 (fun H locs hP hD hS => ?_)
    refine lv_if_ne (tgt := 25) hx hb dX5_tells_17 (by decide) (fun c_4 => ?_) (fun c_4 => ?_)
    · replace hf := if_f c_4 hf
      refine lv_iconst (v := 0) hx hb dX5_tells_25 (by decide) ?_
      refine lv_istore_n (lv' := [(2, .int (0 : Int32)), (0, .ref (A 0)), (1, .int p1)]) hx hb dX5_tells_26 rfl hl (by decide) rfl (fun ls hl => ?_)
      refine lv_iload_n hx hb dX5_tells_27 rfl (lv_at hl 0 rfl) ?_
      refine lv_if_eq (tgt := 39) hx hb dX5_tells_28 (by decide) (fun _ => ?_) (fun c0 => absurd c0 (by decide))
      refine lv_aload_n hx hb dX5_tells_39 rfl (lv_at hl 1 rfl) ?_
      refine lv_iload_n hx hb dX5_tells_40 rfl (lv_at hl 2 rfl) ?_
      obtain ⟨a_5, ha_5, hf⟩ := bd_e hf
      refine Ct.callV (As := [.int p1]) (rest := []) (st1 := [.int a_5.1]) (c_X5_tellsOne l D cI A M p1 a_5 ha_5) hx hb hml hown hts (cwV 1 hts gX5_tells_X5_tellsOne rfl rfl rfl hd_X5_tellsOne ⟨Nat.le_of_ble_eq_true rfl, Nat.le_of_ble_eq_true rfl⟩) (va_recv hK hP (ci := 5) (q0 := 0) rfl cM_at0) (Ln.id rfl) hA hK hP hD hS rfl hl.1 rfl rfl (Nat.le_of_ble_eq_true rfl) dX5_tells_41 (fun H locs hP hD hS => ?_)
      replace hP : va_P D vwCl (cM cI A a_5.2) H := hP
      replace hD : va_D AA (cM cI A a_5.2) := hD
      exact hend (a_5.1, a_5.2) H locs _ _ hf hP hS dX5_tells_44
    · replace hf := if_t c_4 hf
      refine lv_bipush (v := -3) hx hb dX5_tells_20 (by decide +kernel) ?_
      refine lv_goto (tgt := 26) hx hb dX5_tells_22 (by decide) ?_
      refine lv_istore_n (lv' := [(2, .int (-3 : Int32)), (0, .ref (A 0)), (1, .int p1)]) hx hb dX5_tells_26 rfl hl (by decide) rfl (fun ls hl => ?_)
      refine lv_iload_n hx hb dX5_tells_27 rfl (lv_at hl 0 rfl) ?_
      refine lv_if_eq (tgt := 39) hx hb dX5_tells_28 (by decide) (fun c0 => absurd c0 (by decide)) (fun _ => ?_)
      refine lv_aload_n hx hb dX5_tells_31 rfl (lv_at hl 1 rfl) ?_
      refine lv_iload_n hx hb dX5_tells_32 rfl (lv_at hl 0 rfl) ?_
      obtain ⟨a_6, ha_6, hf⟩ := bd_e hf
      refine Ct.callV (As := [.int (-3 : Int32)]) (rest := []) (st1 := [.int a_6.1]) (c_X5_no l D cI A M (-3 : Int32) a_6 ha_6) hx hb hml hown hts (cwV 1 hts gX5_tells_X5_no rfl rfl rfl hd_X5_no ⟨Nat.le_of_ble_eq_true rfl, Nat.le_of_ble_eq_true rfl⟩) (va_recv hK hP (ci := 5) (q0 := 0) rfl cM_at0) (Ln.id rfl) hA hK hP hD hS rfl hl.1 rfl rfl (Nat.le_of_ble_eq_true rfl) dX5_tells_33 (fun H locs hP hD hS => ?_)
      replace hP : va_P D vwCl (cM cI A a_6.2) H := hP
      replace hD : va_D AA (cM cI A a_6.2) := hD
      refine lv_goto (tgt := 44) hx hb dX5_tells_36 (by decide) ?_
      exact hend (a_6.1, a_6.2) H locs _ _ hf hP hS dX5_tells_44
  · replace hf := if_t c_2 hf
    refine lv_iconst (v := -1) hx hb dX5_tells_8 (by decide) ?_
    refine lv_goto (tgt := 26) hx hb dX5_tells_9 (by decide) ?_
    refine lv_istore_n (lv' := [(2, .int (-1 : Int32)), (0, .ref (A 0)), (1, .int p1)]) hx hb dX5_tells_26 rfl hl (by decide) rfl (fun ls hl => ?_)
    refine lv_iload_n hx hb dX5_tells_27 rfl (lv_at hl 0 rfl) ?_
    refine lv_if_eq (tgt := 39) hx hb dX5_tells_28 (by decide) (fun c0 => absurd c0 (by decide)) (fun _ => ?_)
    refine lv_aload_n hx hb dX5_tells_31 rfl (lv_at hl 1 rfl) ?_
    refine lv_iload_n hx hb dX5_tells_32 rfl (lv_at hl 0 rfl) ?_
    obtain ⟨a_7, ha_7, hf⟩ := bd_e hf
    refine Ct.callV (As := [.int (-1 : Int32)]) (rest := []) (st1 := [.int a_7.1]) (c_X5_no l D cI A M (-1 : Int32) a_7 ha_7) hx hb hml hown hts (cwV 1 hts gX5_tells_X5_no rfl rfl rfl hd_X5_no ⟨Nat.le_of_ble_eq_true rfl, Nat.le_of_ble_eq_true rfl⟩) (va_recv hK hP (ci := 5) (q0 := 0) rfl cM_at0) (Ln.id rfl) hA hK hP hD hS rfl hl.1 rfl rfl (Nat.le_of_ble_eq_true rfl) dX5_tells_33 (fun H locs hP hD hS => ?_)
    replace hP : va_P D vwCl (cM cI A a_7.2) H := hP
    replace hD : va_D AA (cM cI A a_7.2) := hD
    refine lv_goto (tgt := 44) hx hb dX5_tells_36 (by decide) ?_
    exact hend (a_7.1, a_7.2) H locs _ _ hf hP hS dX5_tells_44

def rm_X5_boards : Room := { frames := 1, cells := 0, slots := 0, locals := 21 }
theorem hd_X5_boards : yX5_boards.cls = RX5 ∧ yX5_boards.cls ≠ "java/lang/invoke/MethodHandle" ∧ yX5_boards.cls ≠ "java/lang/invoke/VarHandle" ∧ (parseMethodDescriptor yX5_boards.desc).map (fun d => d.parameters.length) = some 2 := by decide +kernel
set_option maxRecDepth 100000 in
set_option maxHeartbeats 4000000 in
theorem c_X5_boards (l : Launch) (D : va_G) (cI : ClassId) (A : Nat → Nat) (M : St) (p1 : Int32) (p2 : Int32) (r : Int32 × St) (hf : f_X5_boards M p1 p2 = some r) : Ct l yX5_boards wsX5_boards rm_X5_boards D cI (cM cI A M) (cM cI A r.2) [.ref (A 0), .int p1, .int p2] (some (.int r.1)) := by
  unfold f_X5_boards at hf
  refine Ct.ofI (cc := cX5_boards) (maxL := 4) (by decide +kernel) rfl (Nat.le_of_ble_eq_true rfl) ?_
  intro p e s m args below meth c AA Q H locs ls hx hb hml hown hts hA hK hP hD hS hl hend0
  have hend : ∀ (r1 : Int32 × St) (H : Heap) (locs : List Loc) (pc : Nat) (ls : Array Slot), some r1 = some r → va_P D vwCl (cM cI A r1.2) H → va_S AA s.heap H locs → decode cX5_boards pc = .ok (.ireturn, 1) → W p l e rm_X5_boards s m args below meth c H locs 0 0 Q (F0 m pc ls [.int r1.1]) := by
    intro r1 H locs pc ls e1 hP hS hd; cases e1; exact hend0 H locs pc ls hP hS hd
  clear hend0
  have hw5 : ∀ w ∈ wsX50, w ∈ wsX5_boards := by decide +kernel
  have k31 := hts (.fieldLink RX5 31 "AnchorsForConfessionModel" "aboard" "[I") (by decide +kernel)
  replace hl : lv_has ls 4 [(0, .ref (A 0)), (1, .int p1), (2, .int p2)] := hl
  refine lv_aload_n hx hb dX5_boards_0 rfl (lv_at hl 0 rfl) ?_
  refine lv_iload_n hx hb dX5_boards_1 rfl (lv_at hl 1 rfl) ?_
  obtain ⟨a_1, ha_1, hf⟩ := bd_e hf
  refine Ct.callV (As := [.int p1]) (rest := []) (st1 := [.int a_1]) (c_X5_isMan l D cI A M p1 a_1 ha_1) hx hb hml hown hts (cwV 1 hts gX5_boards_X5_isMan rfl rfl rfl hd_X5_isMan ⟨Nat.le_of_ble_eq_true rfl, Nat.le_of_ble_eq_true rfl⟩) (va_recv hK hP (ci := 5) (q0 := 0) rfl cM_at0) (Ln.id rfl) hA hK hP hD hS rfl hl.1 rfl rfl (Nat.le_of_ble_eq_true rfl) dX5_boards_2 (fun H locs hP hD hS => ?_)
  refine lv_if_eq (tgt := 16) hx hb dX5_boards_5 (by decide) (fun c_2 => ?_) (fun c_2 => ?_)
  · replace hf := if_t c_2 hf
    refine lv_aload_n hx hb dX5_boards_16 rfl (lv_at hl 0 rfl) ?_
    refine lv_iconst (v := -1) hx hb dX5_boards_17 (by decide) ?_
    obtain ⟨a_3, ha_3, hf⟩ := bd_e hf
    refine Ct.callV (As := [.int (-1 : Int32)]) (rest := []) (st1 := [.int a_3.1]) (c_X5_no l D cI A M (-1 : Int32) a_3 ha_3) hx hb hml hown hts (cwV 1 hts gX5_boards_X5_no rfl rfl rfl hd_X5_no ⟨Nat.le_of_ble_eq_true rfl, Nat.le_of_ble_eq_true rfl⟩) (va_recv hK hP (ci := 5) (q0 := 0) rfl cM_at0) (Ln.id rfl) hA hK hP hD hS rfl hl.1 rfl rfl (Nat.le_of_ble_eq_true rfl) dX5_boards_18 (fun H locs hP hD hS => ?_)
    replace hP : va_P D vwCl (cM cI A a_3.2) H := hP
    replace hD : va_D AA (cM cI A a_3.2) := hD
    exact hend (a_3.1, a_3.2) H locs _ _ hf hP hS dX5_boards_21
  · replace hf := if_f c_2 hf
    refine lv_aload_n hx hb dX5_boards_8 rfl (lv_at hl 0 rfl) ?_
    refine lv_iload_n hx hb dX5_boards_9 rfl (lv_at hl 2 rfl) ?_
    obtain ⟨a_4, ha_4, hf⟩ := bd_e hf
    refine Ct.callV (As := [.int p2]) (rest := []) (st1 := [.int a_4]) (c_X5_isShip l D cI A M p2 a_4 ha_4) hx hb hml hown hts (cwV 1 hts gX5_boards_X5_isShip rfl rfl rfl hd_X5_isShip ⟨Nat.le_of_ble_eq_true rfl, Nat.le_of_ble_eq_true rfl⟩) (va_recv hK hP (ci := 5) (q0 := 0) rfl cM_at0) (Ln.id rfl) hA hK hP hD hS rfl hl.1 rfl rfl (Nat.le_of_ble_eq_true rfl) dX5_boards_10 (fun H locs hP hD hS => ?_)
    refine lv_if_ne (tgt := 22) hx hb dX5_boards_13 (by decide) (fun c_5 => ?_) (fun c_5 => ?_)
    · replace hf := if_f c_5 hf
      refine lv_aload_n hx hb dX5_boards_22 rfl (lv_at hl 0 rfl) ?_
      refine va_get (D := D) (ci := 5) (v := .ref (A 8)) (C := RX5) (T := TX5) (N := 27) hx hb hts hw5 hown hK hP 0 cM_at0 rfl 7 (by decide) k31 (fun _ h9 => h9) rfl dX5_boards_23 ?_
      refine lv_iload_n hx hb dX5_boards_26 rfl (lv_at hl 1 rfl) ?_
      obtain ⟨c_6, hf⟩ := gi_e hf
      refine va_iald hx hb hK hP 8 0 cM_at8 rfl c_6 dX5_boards_27 ?_
      refine lv_topi (fun v_7 ev_7 => ?_)
      replace hf := nm_at ev_7 hf
      refine lv_istore_n (lv' := [(3, .int v_7), (0, .ref (A 0)), (1, .int p1), (2, .int p2)]) hx hb dX5_boards_28 rfl hl (by decide) rfl (fun ls hl => ?_)
      refine lv_aload_n hx hb dX5_boards_29 rfl (lv_at hl 1 rfl) ?_
      refine va_get (D := D) (ci := 5) (v := .ref (A 8)) (C := RX5) (T := TX5) (N := 27) hx hb hts hw5 hown hK hP 0 cM_at0 rfl 7 (by decide) k31 (fun _ h9 => h9) rfl dX5_boards_30 ?_
      refine lv_iload_n hx hb dX5_boards_33 rfl (lv_at hl 2 rfl) ?_
      refine lv_iload_n hx hb dX5_boards_34 rfl (lv_at hl 3 rfl) ?_
      obtain ⟨c_8, hf⟩ := gi_e hf
      refine va_iast hx hb hK hP hD hS 8 0 cM_at8 rfl c_8 dX5_boards_35 (fun H locs hP hD hS => ?_)
      obtain ⟨h_9, eh_9, hf⟩ := nq_e hf
      rw [cM_su8, ← eh_9] at hP hD
      refine lv_iload_n hx hb dX5_boards_36 rfl (lv_at hl 0 rfl) ?_
      exact hend (v_7, h_9) H locs _ _ hf hP hS dX5_boards_37
    · replace hf := if_t c_5 hf
      refine lv_aload_n hx hb dX5_boards_16 rfl (lv_at hl 0 rfl) ?_
      refine lv_iconst (v := -1) hx hb dX5_boards_17 (by decide) ?_
      obtain ⟨a_10, ha_10, hf⟩ := bd_e hf
      refine Ct.callV (As := [.int (-1 : Int32)]) (rest := []) (st1 := [.int a_10.1]) (c_X5_no l D cI A M (-1 : Int32) a_10 ha_10) hx hb hml hown hts (cwV 1 hts gX5_boards_X5_no rfl rfl rfl hd_X5_no ⟨Nat.le_of_ble_eq_true rfl, Nat.le_of_ble_eq_true rfl⟩) (va_recv hK hP (ci := 5) (q0 := 0) rfl cM_at0) (Ln.id rfl) hA hK hP hD hS rfl hl.1 rfl rfl (Nat.le_of_ble_eq_true rfl) dX5_boards_18 (fun H locs hP hD hS => ?_)
      replace hP : va_P D vwCl (cM cI A a_10.2) H := hP
      replace hD : va_D AA (cM cI A a_10.2) := hD
      exact hend (a_10.1, a_10.2) H locs _ _ hf hP hS dX5_boards_21

def rm_X5_sins : Room := { frames := 1, cells := 0, slots := 0, locals := 22 }
theorem hd_X5_sins : yX5_sins.cls = RX5 ∧ yX5_sins.cls ≠ "java/lang/invoke/MethodHandle" ∧ yX5_sins.cls ≠ "java/lang/invoke/VarHandle" ∧ (parseMethodDescriptor yX5_sins.desc).map (fun d => d.parameters.length) = some 2 := by decide +kernel
set_option maxRecDepth 100000 in
set_option maxHeartbeats 4000000 in
theorem c_X5_sins (l : Launch) (D : va_G) (cI : ClassId) (A : Nat → Nat) (M : St) (p1 : Int32) (p2 : Int32) (r : Int32 × St) (hf : f_X5_sins M p1 p2 = some r) : Ct l yX5_sins wsX5_sins rm_X5_sins D cI (cM cI A M) (cM cI A r.2) [.ref (A 0), .int p1, .int p2] (some (.int r.1)) := by
  unfold f_X5_sins at hf
  refine Ct.ofI (cc := cX5_sins) (maxL := 5) (by decide +kernel) rfl (Nat.le_of_ble_eq_true rfl) ?_
  intro p e s m args below meth c AA Q H locs ls hx hb hml hown hts hA hK hP hD hS hl hend0
  have hend : ∀ (r1 : Int32 × St) (H : Heap) (locs : List Loc) (pc : Nat) (ls : Array Slot), some r1 = some r → va_P D vwCl (cM cI A r1.2) H → va_S AA s.heap H locs → decode cX5_sins pc = .ok (.ireturn, 1) → W p l e rm_X5_sins s m args below meth c H locs 0 0 Q (F0 m pc ls [.int r1.1]) := by
    intro r1 H locs pc ls e1 hP hS hd; cases e1; exact hend0 H locs pc ls hP hS hd
  clear hend0
  have hw5 : ∀ w ∈ wsX50, w ∈ wsX5_sins := by decide +kernel
  have k28 := hts (.fieldLink RX5 28 "AnchorsForConfessionModel" "sins" "[I") (by decide +kernel)
  replace hl : lv_has ls 5 [(0, .ref (A 0)), (1, .int p1), (2, .int p2)] := hl
  refine lv_aload_n hx hb dX5_sins_0 rfl (lv_at hl 0 rfl) ?_
  refine lv_iload_n hx hb dX5_sins_1 rfl (lv_at hl 1 rfl) ?_
  obtain ⟨a_1, ha_1, hf⟩ := bd_e hf
  refine Ct.callV (As := [.int p1]) (rest := []) (st1 := [.int a_1]) (c_X5_isMan l D cI A M p1 a_1 ha_1) hx hb hml hown hts (cwV 1 hts gX5_sins_X5_isMan rfl rfl rfl hd_X5_isMan ⟨Nat.le_of_ble_eq_true rfl, Nat.le_of_ble_eq_true rfl⟩) (va_recv hK hP (ci := 5) (q0 := 0) rfl cM_at0) (Ln.id rfl) hA hK hP hD hS rfl hl.1 rfl rfl (Nat.le_of_ble_eq_true rfl) dX5_sins_2 (fun H locs hP hD hS => ?_)
  refine lv_if_ne (tgt := 12) hx hb dX5_sins_5 (by decide) (fun c_2 => ?_) (fun c_2 => ?_)
  · replace hf := if_f c_2 hf
    refine lv_iload_n hx hb dX5_sins_12 rfl (lv_at hl 2 rfl) ?_
    refine lv_iconst (v := 0) hx hb dX5_sins_13 (by decide) ?_
    refine lv_bipush (v := 9) hx hb dX5_sins_14 (by decide +kernel) ?_
    obtain ⟨a_3, ha_3, hf⟩ := bd_e hf
    refine Ct.callS (As := [.int p2, .int (0 : Int32), .int (9 : Int32)]) (rest := []) (st1 := [.int a_3]) (c_X5_bound l D cI  p2 (0 : Int32) (9 : Int32) a_3 ha_3) hx hb hml hown hts (va_cwS 3 hts gX5_sins_X5_bound rfl rfl rfl hd_X5_bound ⟨Nat.le_of_ble_eq_true rfl, Nat.le_of_ble_eq_true rfl⟩) Ln.nil hA hK hP hD hS rfl hl.1 rfl rfl (Nat.le_of_ble_eq_true rfl) dX5_sins_16 (fun H locs hP hD hS => ?_)
    refine lv_istore_n (lv' := [(3, .int a_3), (0, .ref (A 0)), (1, .int p1), (2, .int p2)]) hx hb dX5_sins_19 rfl hl (by decide) rfl (fun ls hl => ?_)
    refine lv_iload_n hx hb dX5_sins_20 rfl (lv_at hl 0 rfl) ?_
    refine lv_if_eq (tgt := 30) hx hb dX5_sins_21 (by decide) (fun c_4 => ?_) (fun c_4 => ?_)
    · replace hf := if_t c_4 hf
      refine lv_aload_n hx hb dX5_sins_30 rfl (lv_at hl 1 rfl) ?_
      refine va_get (D := D) (ci := 5) (v := .ref (A 7)) (C := RX5) (T := TX5) (N := 27) hx hb hts hw5 hown hK hP 0 cM_at0 rfl 6 (by decide) k28 (fun _ h9 => h9) rfl dX5_sins_31 ?_
      refine lv_iload_n hx hb dX5_sins_34 rfl (lv_at hl 2 rfl) ?_
      obtain ⟨c_5, hf⟩ := gi_e hf
      refine va_iald hx hb hK hP 7 0 cM_at7 rfl c_5 dX5_sins_35 ?_
      refine lv_topi (fun v_6 ev_6 => ?_)
      replace hf := nm_at ev_6 hf
      refine lv_istore (lv' := [(4, .int v_6), (3, .int a_3), (0, .ref (A 0)), (1, .int p1), (2, .int p2)]) hx hb dX5_sins_36 hl (by decide) rfl (fun ls hl => ?_)
      refine lv_aload_n hx hb dX5_sins_38 rfl (lv_at hl 2 rfl) ?_
      refine va_get (D := D) (ci := 5) (v := .ref (A 7)) (C := RX5) (T := TX5) (N := 27) hx hb hts hw5 hown hK hP 0 cM_at0 rfl 6 (by decide) k28 (fun _ h9 => h9) rfl dX5_sins_39 ?_
      refine lv_iload_n hx hb dX5_sins_42 rfl (lv_at hl 3 rfl) ?_
      refine lv_iload_n hx hb dX5_sins_43 rfl (lv_at hl 4 rfl) ?_
      obtain ⟨c_7, hf⟩ := gi_e hf
      refine va_iast hx hb hK hP hD hS 7 0 cM_at7 rfl c_7 dX5_sins_44 (fun H locs hP hD hS => ?_)
      obtain ⟨h_8, eh_8, hf⟩ := nq_e hf
      rw [cM_su7, ← eh_8] at hP hD
      refine lv_iload hx hb dX5_sins_45 (lv_at hl 0 rfl) ?_
      exact hend (v_6, h_8) H locs _ _ hf hP hS dX5_sins_47
    · replace hf := if_f c_4 hf
      refine lv_aload_n hx hb dX5_sins_24 rfl (lv_at hl 1 rfl) ?_
      refine lv_iload_n hx hb dX5_sins_25 rfl (lv_at hl 0 rfl) ?_
      obtain ⟨a_9, ha_9, hf⟩ := bd_e hf
      refine Ct.callV (As := [.int a_3]) (rest := []) (st1 := [.int a_9.1]) (c_X5_no l D cI A M a_3 a_9 ha_9) hx hb hml hown hts (cwV 1 hts gX5_sins_X5_no rfl rfl rfl hd_X5_no ⟨Nat.le_of_ble_eq_true rfl, Nat.le_of_ble_eq_true rfl⟩) (va_recv hK hP (ci := 5) (q0 := 0) rfl cM_at0) (Ln.id rfl) hA hK hP hD hS rfl hl.1 rfl rfl (Nat.le_of_ble_eq_true rfl) dX5_sins_26 (fun H locs hP hD hS => ?_)
      replace hP : va_P D vwCl (cM cI A a_9.2) H := hP
      replace hD : va_D AA (cM cI A a_9.2) := hD
      exact hend (a_9.1, a_9.2) H locs _ _ hf hP hS dX5_sins_29
  · replace hf := if_t c_2 hf
    refine lv_iconst (v := -1) hx hb dX5_sins_8 (by decide) ?_
    refine lv_goto (tgt := 19) hx hb dX5_sins_9 (by decide) ?_
    refine lv_istore_n (lv' := [(3, .int (-1 : Int32)), (0, .ref (A 0)), (1, .int p1), (2, .int p2)]) hx hb dX5_sins_19 rfl hl (by decide) rfl (fun ls hl => ?_)
    refine lv_iload_n hx hb dX5_sins_20 rfl (lv_at hl 0 rfl) ?_
    refine lv_if_eq (tgt := 30) hx hb dX5_sins_21 (by decide) (fun c0 => absurd c0 (by decide)) (fun _ => ?_)
    refine lv_aload_n hx hb dX5_sins_24 rfl (lv_at hl 1 rfl) ?_
    refine lv_iload_n hx hb dX5_sins_25 rfl (lv_at hl 0 rfl) ?_
    obtain ⟨a_10, ha_10, hf⟩ := bd_e hf
    refine Ct.callV (As := [.int (-1 : Int32)]) (rest := []) (st1 := [.int a_10.1]) (c_X5_no l D cI A M (-1 : Int32) a_10 ha_10) hx hb hml hown hts (cwV 1 hts gX5_sins_X5_no rfl rfl rfl hd_X5_no ⟨Nat.le_of_ble_eq_true rfl, Nat.le_of_ble_eq_true rfl⟩) (va_recv hK hP (ci := 5) (q0 := 0) rfl cM_at0) (Ln.id rfl) hA hK hP hD hS rfl hl.1 rfl rfl (Nat.le_of_ble_eq_true rfl) dX5_sins_26 (fun H locs hP hD hS => ?_)
    replace hP : va_P D vwCl (cM cI A a_10.2) H := hP
    replace hD : va_D AA (cM cI A a_10.2) := hD
    exact hend (a_10.1, a_10.2) H locs _ _ hf hP hS dX5_sins_29

def rm_X5_loads : Room := { frames := 1, cells := 0, slots := 0, locals := 22 }
theorem hd_X5_loads : yX5_loads.cls = RX5 ∧ yX5_loads.cls ≠ "java/lang/invoke/MethodHandle" ∧ yX5_loads.cls ≠ "java/lang/invoke/VarHandle" ∧ (parseMethodDescriptor yX5_loads.desc).map (fun d => d.parameters.length) = some 2 := by decide +kernel
set_option maxRecDepth 100000 in
set_option maxHeartbeats 4000000 in
theorem c_X5_loads (l : Launch) (D : va_G) (cI : ClassId) (A : Nat → Nat) (M : St) (p1 : Int32) (p2 : Int32) (r : Int32 × St) (hf : f_X5_loads M p1 p2 = some r) : Ct l yX5_loads wsX5_loads rm_X5_loads D cI (cM cI A M) (cM cI A r.2) [.ref (A 0), .int p1, .int p2] (some (.int r.1)) := by
  unfold f_X5_loads at hf
  refine Ct.ofI (cc := cX5_loads) (maxL := 5) (by decide +kernel) rfl (Nat.le_of_ble_eq_true rfl) ?_
  intro p e s m args below meth c AA Q H locs ls hx hb hml hown hts hA hK hP hD hS hl hend0
  have hend : ∀ (r1 : Int32 × St) (H : Heap) (locs : List Loc) (pc : Nat) (ls : Array Slot), some r1 = some r → va_P D vwCl (cM cI A r1.2) H → va_S AA s.heap H locs → decode cX5_loads pc = .ok (.ireturn, 1) → W p l e rm_X5_loads s m args below meth c H locs 0 0 Q (F0 m pc ls [.int r1.1]) := by
    intro r1 H locs pc ls e1 hP hS hd; cases e1; exact hend0 H locs pc ls hP hS hd
  clear hend0
  have hw5 : ∀ w ∈ wsX50, w ∈ wsX5_loads := by decide +kernel
  have k13 := hts (.fieldLink RX5 13 "AnchorsForConfessionModel" "heavy" "[I") (by decide +kernel)
  replace hl : lv_has ls 5 [(0, .ref (A 0)), (1, .int p1), (2, .int p2)] := hl
  refine lv_aload_n hx hb dX5_loads_0 rfl (lv_at hl 0 rfl) ?_
  refine lv_iload_n hx hb dX5_loads_1 rfl (lv_at hl 1 rfl) ?_
  obtain ⟨a_1, ha_1, hf⟩ := bd_e hf
  refine Ct.callV (As := [.int p1]) (rest := []) (st1 := [.int a_1]) (c_X5_isShip l D cI A M p1 a_1 ha_1) hx hb hml hown hts (cwV 1 hts gX5_loads_X5_isShip rfl rfl rfl hd_X5_isShip ⟨Nat.le_of_ble_eq_true rfl, Nat.le_of_ble_eq_true rfl⟩) (va_recv hK hP (ci := 5) (q0 := 0) rfl cM_at0) (Ln.id rfl) hA hK hP hD hS rfl hl.1 rfl rfl (Nat.le_of_ble_eq_true rfl) dX5_loads_2 (fun H locs hP hD hS => ?_)
  refine lv_if_ne (tgt := 12) hx hb dX5_loads_5 (by decide) (fun c_2 => ?_) (fun c_2 => ?_)
  · replace hf := if_f c_2 hf
    refine lv_iload_n hx hb dX5_loads_12 rfl (lv_at hl 2 rfl) ?_
    refine lv_iconst (v := 0) hx hb dX5_loads_13 (by decide) ?_
    refine lv_bipush (v := 9) hx hb dX5_loads_14 (by decide +kernel) ?_
    obtain ⟨a_3, ha_3, hf⟩ := bd_e hf
    refine Ct.callS (As := [.int p2, .int (0 : Int32), .int (9 : Int32)]) (rest := []) (st1 := [.int a_3]) (c_X5_bound l D cI  p2 (0 : Int32) (9 : Int32) a_3 ha_3) hx hb hml hown hts (va_cwS 3 hts gX5_loads_X5_bound rfl rfl rfl hd_X5_bound ⟨Nat.le_of_ble_eq_true rfl, Nat.le_of_ble_eq_true rfl⟩) Ln.nil hA hK hP hD hS rfl hl.1 rfl rfl (Nat.le_of_ble_eq_true rfl) dX5_loads_16 (fun H locs hP hD hS => ?_)
    refine lv_istore_n (lv' := [(3, .int a_3), (0, .ref (A 0)), (1, .int p1), (2, .int p2)]) hx hb dX5_loads_19 rfl hl (by decide) rfl (fun ls hl => ?_)
    refine lv_iload_n hx hb dX5_loads_20 rfl (lv_at hl 0 rfl) ?_
    refine lv_if_eq (tgt := 30) hx hb dX5_loads_21 (by decide) (fun c_4 => ?_) (fun c_4 => ?_)
    · replace hf := if_t c_4 hf
      refine lv_aload_n hx hb dX5_loads_30 rfl (lv_at hl 1 rfl) ?_
      refine va_get (D := D) (ci := 5) (v := .ref (A 2)) (C := RX5) (T := TX5) (N := 27) hx hb hts hw5 hown hK hP 0 cM_at0 rfl 1 (by decide) k13 (fun _ h9 => h9) rfl dX5_loads_31 ?_
      refine lv_iload_n hx hb dX5_loads_34 rfl (lv_at hl 2 rfl) ?_
      obtain ⟨c_5, hf⟩ := gi_e hf
      refine va_iald hx hb hK hP 2 0 cM_at2 rfl c_5 dX5_loads_35 ?_
      refine lv_topi (fun v_6 ev_6 => ?_)
      replace hf := nm_at ev_6 hf
      refine lv_istore (lv' := [(4, .int v_6), (3, .int a_3), (0, .ref (A 0)), (1, .int p1), (2, .int p2)]) hx hb dX5_loads_36 hl (by decide) rfl (fun ls hl => ?_)
      refine lv_aload_n hx hb dX5_loads_38 rfl (lv_at hl 2 rfl) ?_
      refine va_get (D := D) (ci := 5) (v := .ref (A 2)) (C := RX5) (T := TX5) (N := 27) hx hb hts hw5 hown hK hP 0 cM_at0 rfl 1 (by decide) k13 (fun _ h9 => h9) rfl dX5_loads_39 ?_
      refine lv_iload_n hx hb dX5_loads_42 rfl (lv_at hl 3 rfl) ?_
      refine lv_iload_n hx hb dX5_loads_43 rfl (lv_at hl 4 rfl) ?_
      obtain ⟨c_7, hf⟩ := gi_e hf
      refine va_iast hx hb hK hP hD hS 2 0 cM_at2 rfl c_7 dX5_loads_44 (fun H locs hP hD hS => ?_)
      obtain ⟨h_8, eh_8, hf⟩ := nq_e hf
      rw [cM_su2, ← eh_8] at hP hD
      refine lv_iload hx hb dX5_loads_45 (lv_at hl 0 rfl) ?_
      exact hend (v_6, h_8) H locs _ _ hf hP hS dX5_loads_47
    · replace hf := if_f c_4 hf
      refine lv_aload_n hx hb dX5_loads_24 rfl (lv_at hl 1 rfl) ?_
      refine lv_iload_n hx hb dX5_loads_25 rfl (lv_at hl 0 rfl) ?_
      obtain ⟨a_9, ha_9, hf⟩ := bd_e hf
      refine Ct.callV (As := [.int a_3]) (rest := []) (st1 := [.int a_9.1]) (c_X5_no l D cI A M a_3 a_9 ha_9) hx hb hml hown hts (cwV 1 hts gX5_loads_X5_no rfl rfl rfl hd_X5_no ⟨Nat.le_of_ble_eq_true rfl, Nat.le_of_ble_eq_true rfl⟩) (va_recv hK hP (ci := 5) (q0 := 0) rfl cM_at0) (Ln.id rfl) hA hK hP hD hS rfl hl.1 rfl rfl (Nat.le_of_ble_eq_true rfl) dX5_loads_26 (fun H locs hP hD hS => ?_)
      replace hP : va_P D vwCl (cM cI A a_9.2) H := hP
      replace hD : va_D AA (cM cI A a_9.2) := hD
      exact hend (a_9.1, a_9.2) H locs _ _ hf hP hS dX5_loads_29
  · replace hf := if_t c_2 hf
    refine lv_iconst (v := -1) hx hb dX5_loads_8 (by decide) ?_
    refine lv_goto (tgt := 19) hx hb dX5_loads_9 (by decide) ?_
    refine lv_istore_n (lv' := [(3, .int (-1 : Int32)), (0, .ref (A 0)), (1, .int p1), (2, .int p2)]) hx hb dX5_loads_19 rfl hl (by decide) rfl (fun ls hl => ?_)
    refine lv_iload_n hx hb dX5_loads_20 rfl (lv_at hl 0 rfl) ?_
    refine lv_if_eq (tgt := 30) hx hb dX5_loads_21 (by decide) (fun c0 => absurd c0 (by decide)) (fun _ => ?_)
    refine lv_aload_n hx hb dX5_loads_24 rfl (lv_at hl 1 rfl) ?_
    refine lv_iload_n hx hb dX5_loads_25 rfl (lv_at hl 0 rfl) ?_
    obtain ⟨a_10, ha_10, hf⟩ := bd_e hf
    refine Ct.callV (As := [.int (-1 : Int32)]) (rest := []) (st1 := [.int a_10.1]) (c_X5_no l D cI A M (-1 : Int32) a_10 ha_10) hx hb hml hown hts (cwV 1 hts gX5_loads_X5_no rfl rfl rfl hd_X5_no ⟨Nat.le_of_ble_eq_true rfl, Nat.le_of_ble_eq_true rfl⟩) (va_recv hK hP (ci := 5) (q0 := 0) rfl cM_at0) (Ln.id rfl) hA hK hP hD hS rfl hl.1 rfl rfl (Nat.le_of_ble_eq_true rfl) dX5_loads_26 (fun H locs hP hD hS => ?_)
    replace hP : va_P D vwCl (cM cI A a_10.2) H := hP
    replace hD : va_D AA (cM cI A a_10.2) := hD
    exact hend (a_10.1, a_10.2) H locs _ _ hf hP hS dX5_loads_29

def rm_X5_turn : Room := { frames := 1, cells := 0, slots := 0, locals := 22 }
theorem hd_X5_turn : yX5_turn.cls = RX5 ∧ yX5_turn.cls ≠ "java/lang/invoke/MethodHandle" ∧ yX5_turn.cls ≠ "java/lang/invoke/VarHandle" ∧ (parseMethodDescriptor yX5_turn.desc).map (fun d => d.parameters.length) = some 3 := by decide +kernel
set_option maxRecDepth 100000 in
set_option maxHeartbeats 4000000 in
theorem c_X5_turn (l : Launch) (D : va_G) (cI : ClassId) (A : Nat → Nat) (M : St) (p1 : Int32) (p2 : Int32) (p3 : Int32) (r : Int32 × St) (hf : f_X5_turn M p1 p2 p3 = some r) : Ct l yX5_turn wsX5_turn rm_X5_turn D cI (cM cI A M) (cM cI A r.2) [.ref (A 0), .int p1, .int p2, .int p3] (some (.int r.1)) := by
  unfold f_X5_turn at hf
  refine Ct.ofI (cc := cX5_turn) (maxL := 6) (by decide +kernel) rfl (Nat.le_of_ble_eq_true rfl) ?_
  intro p e s m args below meth c AA Q H locs ls hx hb hml hown hts hA hK hP hD hS hl hend0
  have hend : ∀ (r1 : Int32 × St) (H : Heap) (locs : List Loc) (pc : Nat) (ls : Array Slot), some r1 = some r → va_P D vwCl (cM cI A r1.2) H → va_S AA s.heap H locs → decode cX5_turn pc = .ok (.ireturn, 1) → W p l e rm_X5_turn s m args below meth c H locs 0 0 Q (F0 m pc ls [.int r1.1]) := by
    intro r1 H locs pc ls e1 hP hS hd; cases e1; exact hend0 H locs pc ls hP hS hd
  clear hend0
  have hw5 : ∀ w ∈ wsX50, w ∈ wsX5_turn := by decide +kernel
  have k22 := hts (.fieldLink RX5 22 "AnchorsForConfessionModel" "kind" "[I") (by decide +kernel)
  have k25 := hts (.fieldLink RX5 25 "AnchorsForConfessionModel" "figure" "[I") (by decide +kernel)
  replace hl : lv_has ls 6 [(0, .ref (A 0)), (1, .int p1), (2, .int p2), (3, .int p3)] := hl
  refine lv_aload_n hx hb dX5_turn_0 rfl (lv_at hl 0 rfl) ?_
  refine lv_iload_n hx hb dX5_turn_1 rfl (lv_at hl 1 rfl) ?_
  obtain ⟨a_1, ha_1, hf⟩ := bd_e hf
  refine Ct.callV (As := [.int p1]) (rest := []) (st1 := [.int a_1]) (c_X5_isMan l D cI A M p1 a_1 ha_1) hx hb hml hown hts (cwV 1 hts gX5_turn_X5_isMan rfl rfl rfl hd_X5_isMan ⟨Nat.le_of_ble_eq_true rfl, Nat.le_of_ble_eq_true rfl⟩) (va_recv hK hP (ci := 5) (q0 := 0) rfl cM_at0) (Ln.id rfl) hA hK hP hD hS rfl hl.1 rfl rfl (Nat.le_of_ble_eq_true rfl) dX5_turn_2 (fun H locs hP hD hS => ?_)
  refine lv_if_ne (tgt := 12) hx hb dX5_turn_5 (by decide) (fun c_2 => ?_) (fun c_2 => ?_)
  · replace hf := if_f c_2 hf
    refine lv_iload_n hx hb dX5_turn_12 rfl (lv_at hl 2 rfl) ?_
    refine lv_iconst (v := 0) hx hb dX5_turn_13 (by decide) ?_
    refine lv_iconst (v := 5) hx hb dX5_turn_14 (by decide) ?_
    obtain ⟨a_3, ha_3, hf⟩ := bd_e hf
    refine Ct.callS (As := [.int p2, .int (0 : Int32), .int (5 : Int32)]) (rest := []) (st1 := [.int a_3]) (c_X5_isIn l D cI  p2 (0 : Int32) (5 : Int32) a_3 ha_3) hx hb hml hown hts (va_cwS 3 hts gX5_turn_X5_isIn rfl rfl rfl hd_X5_isIn ⟨Nat.le_of_ble_eq_true rfl, Nat.le_of_ble_eq_true rfl⟩) Ln.nil hA hK hP hD hS rfl hl.1 rfl rfl (Nat.le_of_ble_eq_true rfl) dX5_turn_15 (fun H locs hP hD hS => ?_)
    refine lv_if_ne (tgt := 26) hx hb dX5_turn_18 (by decide) (fun c_4 => ?_) (fun c_4 => ?_)
    · replace hf := if_f c_4 hf
      refine lv_iload_n hx hb dX5_turn_26 rfl (lv_at hl 3 rfl) ?_
      refine lv_iconst (v := 0) hx hb dX5_turn_27 (by decide) ?_
      refine lv_bipush (v := 9) hx hb dX5_turn_28 (by decide +kernel) ?_
      obtain ⟨a_5, ha_5, hf⟩ := bd_e hf
      refine Ct.callS (As := [.int p3, .int (0 : Int32), .int (9 : Int32)]) (rest := []) (st1 := [.int a_5]) (c_X5_bound l D cI  p3 (0 : Int32) (9 : Int32) a_5 ha_5) hx hb hml hown hts (va_cwS 3 hts gX5_turn_X5_bound rfl rfl rfl hd_X5_bound ⟨Nat.le_of_ble_eq_true rfl, Nat.le_of_ble_eq_true rfl⟩) Ln.nil hA hK hP hD hS rfl hl.1 rfl rfl (Nat.le_of_ble_eq_true rfl) dX5_turn_30 (fun H locs hP hD hS => ?_)
      refine lv_istore (lv' := [(4, .int a_5), (0, .ref (A 0)), (1, .int p1), (2, .int p2), (3, .int p3)]) hx hb dX5_turn_33 hl (by decide) rfl (fun ls hl => ?_)
      refine lv_iload hx hb dX5_turn_35 (lv_at hl 0 rfl) ?_
      refine lv_if_eq (tgt := 47) hx hb dX5_turn_37 (by decide) (fun c_6 => ?_) (fun c_6 => ?_)
      · replace hf := if_t c_6 hf
        refine lv_bipush (v := 10) hx hb dX5_turn_47 (by decide +kernel) ?_
        refine lv_aload_n hx hb dX5_turn_49 rfl (lv_at hl 1 rfl) ?_
        refine va_get (D := D) (ci := 5) (v := .ref (A 5)) (C := RX5) (T := TX5) (N := 27) hx hb hts hw5 hown hK hP 0 cM_at0 rfl 4 (by decide) k22 (fun _ h9 => h9) rfl dX5_turn_50 ?_
        refine lv_iload_n hx hb dX5_turn_53 rfl (lv_at hl 2 rfl) ?_
        obtain ⟨c_7, hf⟩ := gi_e hf
        refine va_iald hx hb hK hP 5 0 cM_at5 rfl c_7 dX5_turn_54 ?_
        refine lv_imul hx hb dX5_turn_55 ?_
        refine lv_aload_n hx hb dX5_turn_56 rfl (lv_at hl 1 rfl) ?_
        refine va_get (D := D) (ci := 5) (v := .ref (A 6)) (C := RX5) (T := TX5) (N := 27) hx hb hts hw5 hown hK hP 0 cM_at0 rfl 5 (by decide) k25 (fun _ h9 => h9) rfl dX5_turn_57 ?_
        refine lv_iload_n hx hb dX5_turn_60 rfl (lv_at hl 2 rfl) ?_
        obtain ⟨c_8, hf⟩ := gi_e hf
        refine va_iald hx hb hK hP 6 0 cM_at6 rfl c_8 dX5_turn_61 ?_
        refine lv_iadd hx hb dX5_turn_62 ?_
        refine lv_topi (fun v_9 ev_9 => ?_)
        replace hf := nm_at ev_9 hf
        refine lv_istore (lv' := [(5, .int v_9), (4, .int a_5), (0, .ref (A 0)), (1, .int p1), (2, .int p2), (3, .int p3)]) hx hb dX5_turn_63 hl (by decide) rfl (fun ls hl => ?_)
        refine lv_aload_n hx hb dX5_turn_65 rfl (lv_at hl 2 rfl) ?_
        refine va_get (D := D) (ci := 5) (v := .ref (A 5)) (C := RX5) (T := TX5) (N := 27) hx hb hts hw5 hown hK hP 0 cM_at0 rfl 4 (by decide) k22 (fun _ h9 => h9) rfl dX5_turn_66 ?_
        refine lv_iload_n hx hb dX5_turn_69 rfl (lv_at hl 3 rfl) ?_
        refine lv_iload_n hx hb dX5_turn_70 rfl (lv_at hl 4 rfl) ?_
        obtain ⟨c_10, hf⟩ := gi_e hf
        refine va_iast hx hb hK hP hD hS 5 0 cM_at5 rfl c_10 dX5_turn_71 (fun H locs hP hD hS => ?_)
        obtain ⟨h_11, eh_11, hf⟩ := nq_e hf
        rw [cM_su5, ← eh_11] at hP hD
        refine lv_aload_n hx hb dX5_turn_72 rfl (lv_at hl 2 rfl) ?_
        refine va_get (D := D) (ci := 5) (v := .ref (A 6)) (C := RX5) (T := TX5) (N := 27) hx hb hts hw5 hown hK hP 0 cM_at0 rfl 5 (by decide) k25 (fun _ h9 => h9) rfl dX5_turn_73 ?_
        refine lv_iload_n hx hb dX5_turn_76 rfl (lv_at hl 3 rfl) ?_
        refine lv_iload_n hx hb dX5_turn_77 rfl (lv_at hl 5 rfl) ?_
        obtain ⟨c_12, hf⟩ := gi_e hf
        refine va_iast hx hb hK hP hD hS 6 0 cM_at6 rfl c_12 dX5_turn_78 (fun H locs hP hD hS => ?_)
        obtain ⟨h_13, eh_13, hf⟩ := nq_e hf
        rw [cM_su6, ← eh_13] at hP hD
        refine lv_iload hx hb dX5_turn_79 (lv_at hl 0 rfl) ?_
        exact hend (v_9, h_13) H locs _ _ hf hP hS dX5_turn_81
      · replace hf := if_f c_6 hf
        refine lv_aload_n hx hb dX5_turn_40 rfl (lv_at hl 1 rfl) ?_
        refine lv_iload hx hb dX5_turn_41 (lv_at hl 0 rfl) ?_
        obtain ⟨a_14, ha_14, hf⟩ := bd_e hf
        refine Ct.callV (As := [.int a_5]) (rest := []) (st1 := [.int a_14.1]) (c_X5_no l D cI A M a_5 a_14 ha_14) hx hb hml hown hts (cwV 1 hts gX5_turn_X5_no rfl rfl rfl hd_X5_no ⟨Nat.le_of_ble_eq_true rfl, Nat.le_of_ble_eq_true rfl⟩) (va_recv hK hP (ci := 5) (q0 := 0) rfl cM_at0) (Ln.id rfl) hA hK hP hD hS rfl hl.1 rfl rfl (Nat.le_of_ble_eq_true rfl) dX5_turn_43 (fun H locs hP hD hS => ?_)
        replace hP : va_P D vwCl (cM cI A a_14.2) H := hP
        replace hD : va_D AA (cM cI A a_14.2) := hD
        exact hend (a_14.1, a_14.2) H locs _ _ hf hP hS dX5_turn_46
    · replace hf := if_t c_4 hf
      refine lv_bipush (v := -2) hx hb dX5_turn_21 (by decide +kernel) ?_
      refine lv_goto (tgt := 33) hx hb dX5_turn_23 (by decide) ?_
      refine lv_istore (lv' := [(4, .int (-2 : Int32)), (0, .ref (A 0)), (1, .int p1), (2, .int p2), (3, .int p3)]) hx hb dX5_turn_33 hl (by decide) rfl (fun ls hl => ?_)
      refine lv_iload hx hb dX5_turn_35 (lv_at hl 0 rfl) ?_
      refine lv_if_eq (tgt := 47) hx hb dX5_turn_37 (by decide) (fun c0 => absurd c0 (by decide)) (fun _ => ?_)
      refine lv_aload_n hx hb dX5_turn_40 rfl (lv_at hl 1 rfl) ?_
      refine lv_iload hx hb dX5_turn_41 (lv_at hl 0 rfl) ?_
      obtain ⟨a_15, ha_15, hf⟩ := bd_e hf
      refine Ct.callV (As := [.int (-2 : Int32)]) (rest := []) (st1 := [.int a_15.1]) (c_X5_no l D cI A M (-2 : Int32) a_15 ha_15) hx hb hml hown hts (cwV 1 hts gX5_turn_X5_no rfl rfl rfl hd_X5_no ⟨Nat.le_of_ble_eq_true rfl, Nat.le_of_ble_eq_true rfl⟩) (va_recv hK hP (ci := 5) (q0 := 0) rfl cM_at0) (Ln.id rfl) hA hK hP hD hS rfl hl.1 rfl rfl (Nat.le_of_ble_eq_true rfl) dX5_turn_43 (fun H locs hP hD hS => ?_)
      replace hP : va_P D vwCl (cM cI A a_15.2) H := hP
      replace hD : va_D AA (cM cI A a_15.2) := hD
      exact hend (a_15.1, a_15.2) H locs _ _ hf hP hS dX5_turn_46
  · replace hf := if_t c_2 hf
    refine lv_iconst (v := -1) hx hb dX5_turn_8 (by decide) ?_
    refine lv_goto (tgt := 33) hx hb dX5_turn_9 (by decide) ?_
    refine lv_istore (lv' := [(4, .int (-1 : Int32)), (0, .ref (A 0)), (1, .int p1), (2, .int p2), (3, .int p3)]) hx hb dX5_turn_33 hl (by decide) rfl (fun ls hl => ?_)
    refine lv_iload hx hb dX5_turn_35 (lv_at hl 0 rfl) ?_
    refine lv_if_eq (tgt := 47) hx hb dX5_turn_37 (by decide) (fun c0 => absurd c0 (by decide)) (fun _ => ?_)
    refine lv_aload_n hx hb dX5_turn_40 rfl (lv_at hl 1 rfl) ?_
    refine lv_iload hx hb dX5_turn_41 (lv_at hl 0 rfl) ?_
    obtain ⟨a_16, ha_16, hf⟩ := bd_e hf
    refine Ct.callV (As := [.int (-1 : Int32)]) (rest := []) (st1 := [.int a_16.1]) (c_X5_no l D cI A M (-1 : Int32) a_16 ha_16) hx hb hml hown hts (cwV 1 hts gX5_turn_X5_no rfl rfl rfl hd_X5_no ⟨Nat.le_of_ble_eq_true rfl, Nat.le_of_ble_eq_true rfl⟩) (va_recv hK hP (ci := 5) (q0 := 0) rfl cM_at0) (Ln.id rfl) hA hK hP hD hS rfl hl.1 rfl rfl (Nat.le_of_ble_eq_true rfl) dX5_turn_43 (fun H locs hP hD hS => ?_)
    replace hP : va_P D vwCl (cM cI A a_16.2) H := hP
    replace hD : va_D AA (cM cI A a_16.2) := hD
    exact hend (a_16.1, a_16.2) H locs _ _ hf hP hS dX5_turn_46

def rm_X5_tides : Room := { frames := 3, cells := 0, slots := 0, locals := 65 }
theorem hd_X5_tides : yX5_tides.cls = RX5 ∧ yX5_tides.cls ≠ "java/lang/invoke/MethodHandle" ∧ yX5_tides.cls ≠ "java/lang/invoke/VarHandle" ∧ (parseMethodDescriptor yX5_tides.desc).map (fun d => d.parameters.length) = some 1 := by decide +kernel
set_option maxRecDepth 100000 in
set_option maxHeartbeats 4000000 in
theorem c_X5_tides (l : Launch) (D : va_G) (cI : ClassId) (A : Nat → Nat) (M : St) (p1 : Int32) (r : Int32 × St) (hf : f_X5_tides M p1 = some r) : Ct l yX5_tides wsX5_tides rm_X5_tides D cI (cM cI A M) (cM cI A r.2) [.ref (A 0), .int p1] (some (.int r.1)) := by
  unfold f_X5_tides at hf
  refine Ct.ofI (cc := cX5_tides) (maxL := 3) (by decide +kernel) rfl (Nat.le_of_ble_eq_true rfl) ?_
  intro p e s m args below meth c AA Q H locs ls hx hb hml hown hts hA hK hP hD hS hl hend0
  have hend : ∀ (r1 : Int32 × St) (H : Heap) (locs : List Loc) (pc : Nat) (ls : Array Slot), some r1 = some r → va_P D vwCl (cM cI A r1.2) H → va_S AA s.heap H locs → decode cX5_tides pc = .ok (.ireturn, 1) → W p l e rm_X5_tides s m args below meth c H locs 0 0 Q (F0 m pc ls [.int r1.1]) := by
    intro r1 H locs pc ls e1 hP hS hd; cases e1; exact hend0 H locs pc ls hP hS hd
  clear hend0
  have hw5 : ∀ w ∈ wsX50, w ∈ wsX5_tides := by decide +kernel
  have k110 := hts (.fieldLink RX5 110 "AnchorsForConfessionModel" "tide" "I") (by decide +kernel)
  replace hl : lv_has ls 3 [(0, .ref (A 0)), (1, .int p1)] := hl
  refine lv_iload_n hx hb dX5_tides_0 rfl (lv_at hl 1 rfl) ?_
  refine lv_iconst (v := 1) hx hb dX5_tides_1 (by decide) ?_
  refine lv_bipush (v := 60) hx hb dX5_tides_2 (by decide +kernel) ?_
  obtain ⟨a_1, ha_1, hf⟩ := bd_e hf
  refine Ct.callS (As := [.int p1, .int (1 : Int32), .int (60 : Int32)]) (rest := []) (st1 := [.int a_1]) (c_X5_bound l D cI  p1 (1 : Int32) (60 : Int32) a_1 ha_1) hx hb hml hown hts (va_cwS 3 hts gX5_tides_X5_bound rfl rfl rfl hd_X5_bound ⟨Nat.le_of_ble_eq_true rfl, Nat.le_of_ble_eq_true rfl⟩) Ln.nil hA hK hP hD hS rfl hl.1 rfl rfl (Nat.le_of_ble_eq_true rfl) dX5_tides_4 (fun H locs hP hD hS => ?_)
  refine lv_istore_n (lv' := [(2, .int a_1), (0, .ref (A 0)), (1, .int p1)]) hx hb dX5_tides_7 rfl hl (by decide) rfl (fun ls hl => ?_)
  refine lv_iload_n hx hb dX5_tides_8 rfl (lv_at hl 0 rfl) ?_
  refine lv_if_ne (tgt := 27) hx hb dX5_tides_9 (by decide) (fun c_2 => ?_) (fun c_2 => ?_)
  · replace hf := if_f c_2 hf
    refine lv_iload_n hx hb dX5_tides_27 rfl (lv_at hl 0 rfl) ?_
    refine lv_if_eq (tgt := 37) hx hb dX5_tides_28 (by decide) (fun c_3 => ?_) (fun c_3 => ?_)
    · replace hf := if_t c_3 hf
      refine lv_aload_n hx hb dX5_tides_37 rfl (lv_at hl 1 rfl) ?_
      refine lv_iload_n hx hb dX5_tides_38 rfl (lv_at hl 2 rfl) ?_
      obtain ⟨a_4, ha_4, hf⟩ := bd_e hf
      refine Ct.callV (As := [.int p1]) (rest := []) (st1 := []) (c_X5_goes l D cI A M p1 a_4 ha_4) hx hb hml hown hts (cwV 1 hts gX5_tides_X5_goes rfl rfl rfl hd_X5_goes ⟨Nat.le_of_ble_eq_true rfl, Nat.le_of_ble_eq_true rfl⟩) (va_recv hK hP (ci := 5) (q0 := 0) rfl cM_at0) (Ln.id rfl) hA hK hP hD hS rfl hl.1 rfl rfl (Nat.le_of_ble_eq_true rfl) dX5_tides_39 (fun H locs hP hD hS => ?_)
      replace hP : va_P D vwCl (cM cI A a_4) H := hP
      replace hD : va_D AA (cM cI A a_4) := hD
      refine lv_aload_n hx hb dX5_tides_42 rfl (lv_at hl 1 rfl) ?_
      obtain ⟨a_5, ha_5, hf⟩ := bd_e hf
      refine Ct.callV (As := []) (rest := []) (st1 := [.int a_5]) (c_X5_outOnes l D cI A a_4 a_5 ha_5) hx hb hml hown hts (cwV 0 hts gX5_tides_X5_outOnes rfl rfl rfl hd_X5_outOnes ⟨Nat.le_of_ble_eq_true rfl, Nat.le_of_ble_eq_true rfl⟩) (va_recv hK hP (ci := 5) (q0 := 0) rfl cM_at0) (Ln.id rfl) hA hK hP hD hS rfl hl.1 rfl rfl (Nat.le_of_ble_eq_true rfl) dX5_tides_43 (fun H locs hP hD hS => ?_)
      exact hend (a_5, a_4) H locs _ _ hf hP hS dX5_tides_46
    · replace hf := if_f c_3 hf
      refine lv_aload_n hx hb dX5_tides_31 rfl (lv_at hl 1 rfl) ?_
      refine lv_iload_n hx hb dX5_tides_32 rfl (lv_at hl 0 rfl) ?_
      obtain ⟨a_6, ha_6, hf⟩ := bd_e hf
      refine Ct.callV (As := [.int a_1]) (rest := []) (st1 := [.int a_6.1]) (c_X5_no l D cI A M a_1 a_6 ha_6) hx hb hml hown hts (cwV 1 hts gX5_tides_X5_no rfl rfl rfl hd_X5_no ⟨Nat.le_of_ble_eq_true rfl, Nat.le_of_ble_eq_true rfl⟩) (va_recv hK hP (ci := 5) (q0 := 0) rfl cM_at0) (Ln.id rfl) hA hK hP hD hS rfl hl.1 rfl rfl (Nat.le_of_ble_eq_true rfl) dX5_tides_33 (fun H locs hP hD hS => ?_)
      replace hP : va_P D vwCl (cM cI A a_6.2) H := hP
      replace hD : va_D AA (cM cI A a_6.2) := hD
      exact hend (a_6.1, a_6.2) H locs _ _ hf hP hS dX5_tides_36
  · replace hf := if_t c_2 hf
    refine lv_aload_n hx hb dX5_tides_12 rfl (lv_at hl 1 rfl) ?_
    refine va_get (D := D) (ci := 5) (v := .int (M 16 3)) (C := RX5) (T := TX5) (N := 27) hx hb hts hw5 hown hK hP 0 cM_at0 rfl 11 (by decide) k110 (fun _ h9 => h9) rfl dX5_tides_13 ?_
    refine lv_iload_n hx hb dX5_tides_16 rfl (lv_at hl 2 rfl) ?_
    refine lv_iadd hx hb dX5_tides_17 ?_
    refine lv_sipush (v := 999) hx hb dX5_tides_18 (by decide +kernel) ?_
    refine lv_icmp_le (tgt := 27) hx hb dX5_tides_21 (by decide) (fun c_7 => ?_) (fun c_7 => ?_)
    · replace hf := if_t c_7 hf
      refine lv_iload_n hx hb dX5_tides_27 rfl (lv_at hl 0 rfl) ?_
      refine lv_if_eq (tgt := 37) hx hb dX5_tides_28 (by decide) (fun c_8 => ?_) (fun c_8 => ?_)
      · replace hf := if_t c_8 hf
        refine lv_aload_n hx hb dX5_tides_37 rfl (lv_at hl 1 rfl) ?_
        refine lv_iload_n hx hb dX5_tides_38 rfl (lv_at hl 2 rfl) ?_
        obtain ⟨a_9, ha_9, hf⟩ := bd_e hf
        refine Ct.callV (As := [.int p1]) (rest := []) (st1 := []) (c_X5_goes l D cI A M p1 a_9 ha_9) hx hb hml hown hts (cwV 1 hts gX5_tides_X5_goes rfl rfl rfl hd_X5_goes ⟨Nat.le_of_ble_eq_true rfl, Nat.le_of_ble_eq_true rfl⟩) (va_recv hK hP (ci := 5) (q0 := 0) rfl cM_at0) (Ln.id rfl) hA hK hP hD hS rfl hl.1 rfl rfl (Nat.le_of_ble_eq_true rfl) dX5_tides_39 (fun H locs hP hD hS => ?_)
        replace hP : va_P D vwCl (cM cI A a_9) H := hP
        replace hD : va_D AA (cM cI A a_9) := hD
        refine lv_aload_n hx hb dX5_tides_42 rfl (lv_at hl 1 rfl) ?_
        obtain ⟨a_10, ha_10, hf⟩ := bd_e hf
        refine Ct.callV (As := []) (rest := []) (st1 := [.int a_10]) (c_X5_outOnes l D cI A a_9 a_10 ha_10) hx hb hml hown hts (cwV 0 hts gX5_tides_X5_outOnes rfl rfl rfl hd_X5_outOnes ⟨Nat.le_of_ble_eq_true rfl, Nat.le_of_ble_eq_true rfl⟩) (va_recv hK hP (ci := 5) (q0 := 0) rfl cM_at0) (Ln.id rfl) hA hK hP hD hS rfl hl.1 rfl rfl (Nat.le_of_ble_eq_true rfl) dX5_tides_43 (fun H locs hP hD hS => ?_)
        exact hend (a_10, a_9) H locs _ _ hf hP hS dX5_tides_46
      · replace hf := if_f c_8 hf
        refine lv_aload_n hx hb dX5_tides_31 rfl (lv_at hl 1 rfl) ?_
        refine lv_iload_n hx hb dX5_tides_32 rfl (lv_at hl 0 rfl) ?_
        obtain ⟨a_11, ha_11, hf⟩ := bd_e hf
        refine Ct.callV (As := [.int a_1]) (rest := []) (st1 := [.int a_11.1]) (c_X5_no l D cI A M a_1 a_11 ha_11) hx hb hml hown hts (cwV 1 hts gX5_tides_X5_no rfl rfl rfl hd_X5_no ⟨Nat.le_of_ble_eq_true rfl, Nat.le_of_ble_eq_true rfl⟩) (va_recv hK hP (ci := 5) (q0 := 0) rfl cM_at0) (Ln.id rfl) hA hK hP hD hS rfl hl.1 rfl rfl (Nat.le_of_ble_eq_true rfl) dX5_tides_33 (fun H locs hP hD hS => ?_)
        replace hP : va_P D vwCl (cM cI A a_11.2) H := hP
        replace hD : va_D AA (cM cI A a_11.2) := hD
        exact hend (a_11.1, a_11.2) H locs _ _ hf hP hS dX5_tides_36
    · replace hf := if_f c_7 hf
      refine lv_bipush (v := -6) hx hb dX5_tides_24 (by decide +kernel) ?_
      refine lv_istore_n (lv' := [(2, .int (-6 : Int32)), (0, .ref (A 0)), (1, .int p1)]) hx hb dX5_tides_26 rfl hl (by decide) rfl (fun ls hl => ?_)
      refine lv_iload_n hx hb dX5_tides_27 rfl (lv_at hl 0 rfl) ?_
      refine lv_if_eq (tgt := 37) hx hb dX5_tides_28 (by decide) (fun c0 => absurd c0 (by decide)) (fun _ => ?_)
      refine lv_aload_n hx hb dX5_tides_31 rfl (lv_at hl 1 rfl) ?_
      refine lv_iload_n hx hb dX5_tides_32 rfl (lv_at hl 0 rfl) ?_
      obtain ⟨a_12, ha_12, hf⟩ := bd_e hf
      refine Ct.callV (As := [.int (-6 : Int32)]) (rest := []) (st1 := [.int a_12.1]) (c_X5_no l D cI A M (-6 : Int32) a_12 ha_12) hx hb hml hown hts (cwV 1 hts gX5_tides_X5_no rfl rfl rfl hd_X5_no ⟨Nat.le_of_ble_eq_true rfl, Nat.le_of_ble_eq_true rfl⟩) (va_recv hK hP (ci := 5) (q0 := 0) rfl cM_at0) (Ln.id rfl) hA hK hP hD hS rfl hl.1 rfl rfl (Nat.le_of_ble_eq_true rfl) dX5_tides_33 (fun H locs hP hD hS => ?_)
      replace hP : va_P D vwCl (cM cI A a_12.2) H := hP
      replace hD : va_D AA (cM cI A a_12.2) := hD
      exact hend (a_12.1, a_12.2) H locs _ _ hf hP hS dX5_tides_36

def rm_X5_notTides : Room := { frames := 1, cells := 0, slots := 0, locals := 22 }
theorem hd_X5_notTides : yX5_notTides.cls ≠ "java/lang/invoke/MethodHandle" ∧ yX5_notTides.cls ≠ "java/lang/invoke/VarHandle" ∧ (parseMethodDescriptor yX5_notTides.desc).map (fun d => d.parameters.length) = some 1 := by decide +kernel
set_option maxRecDepth 100000 in
set_option maxHeartbeats 4000000 in
theorem c_X5_notTides (l : Launch) (D : va_G) (cI : ClassId) (p1 : Int32) (r : Int32) (hf : f_X5_notTides p1 = some r) : Ct l yX5_notTides wsX5_notTides rm_X5_notTides D cI [] [] [.int p1] (some (.int r)) := by
  unfold f_X5_notTides at hf
  refine Ct.ofI (cc := cX5_notTides) (maxL := 1) (by decide +kernel) rfl (Nat.le_of_ble_eq_true rfl) ?_
  intro p e s m args below meth c AA Q H locs ls hx hb hml hown hts hA hK hP hD hS hl hend0
  have hend : ∀ (r1 : Int32) (H : Heap) (locs : List Loc) (pc : Nat) (ls : Array Slot), some r1 = some r → va_P D vwCl [] H → va_S AA s.heap H locs → decode cX5_notTides pc = .ok (.ireturn, 1) → W p l e rm_X5_notTides s m args below meth c H locs 0 0 Q (F0 m pc ls [.int r1]) := by
    intro r1 H locs pc ls e1 hP hS hd; cases e1; exact hend0 H locs pc ls hP hS hd
  clear hend0
  replace hl : lv_has ls 1 [(0, .int p1)] := hl
  refine lv_iload_n hx hb dX5_notTides_0 rfl (lv_at hl 0 rfl) ?_
  refine lv_iconst (v := 0) hx hb dX5_notTides_1 (by decide) ?_
  refine lv_bipush (v := 60) hx hb dX5_notTides_2 (by decide +kernel) ?_
  obtain ⟨a_1, ha_1, hf⟩ := bd_e hf
  refine Ct.callS (As := [.int p1, .int (0 : Int32), .int (60 : Int32)]) (rest := []) (st1 := [.int a_1]) (c_X5_bound l D cI  p1 (0 : Int32) (60 : Int32) a_1 ha_1) hx hb hml hown hts (va_cwS 3 hts gX5_notTides_X5_bound rfl rfl rfl hd_X5_bound ⟨Nat.le_of_ble_eq_true rfl, Nat.le_of_ble_eq_true rfl⟩) (Ln.id rfl) hA hK hP hD hS rfl hl.1 rfl rfl (Nat.le_of_ble_eq_true rfl) dX5_notTides_4 (fun H locs hP hD hS => ?_)
  exact hend a_1 H locs _ _ hf hP hS dX5_notTides_7

def rm_X5_shipThen : Room := { frames := 3, cells := 0, slots := 0, locals := 65 }
theorem hd_X5_shipThen : yX5_shipThen.cls = RX5 ∧ yX5_shipThen.cls ≠ "java/lang/invoke/MethodHandle" ∧ yX5_shipThen.cls ≠ "java/lang/invoke/VarHandle" ∧ (parseMethodDescriptor yX5_shipThen.desc).map (fun d => d.parameters.length) = some 3 := by decide +kernel
set_option maxRecDepth 100000 in
set_option maxHeartbeats 4000000 in
theorem c_X5_shipThen (l : Launch) (D : va_G) (cI : ClassId) (A : Nat → Nat) (M : St) (p1 : Int32) (p2 : Int32) (p3 : Int32) (r : Int32 × St) (hf : f_X5_shipThen M p1 p2 p3 = some r) : Ct l yX5_shipThen wsX5_shipThen rm_X5_shipThen D cI (cM cI A M) (cM cI A r.2) [.ref (A 0), .int p1, .int p2, .int p3] (some (.int r.1)) := by
  unfold f_X5_shipThen at hf
  refine Ct.ofI (cc := cX5_shipThen) (maxL := 6) (by decide +kernel) rfl (Nat.le_of_ble_eq_true rfl) ?_
  intro p e s m args below meth c AA Q H locs ls hx hb hml hown hts hA hK hP hD hS hl hend0
  have hend : ∀ (r1 : Int32 × St) (H : Heap) (locs : List Loc) (pc : Nat) (ls : Array Slot), some r1 = some r → va_P D vwCl (cM cI A r1.2) H → va_S AA s.heap H locs → decode cX5_shipThen pc = .ok (.ireturn, 1) → W p l e rm_X5_shipThen s m args below meth c H locs 0 0 Q (F0 m pc ls [.int r1.1]) := by
    intro r1 H locs pc ls e1 hP hS hd; cases e1; exact hend0 H locs pc ls hP hS hd
  clear hend0
  have hw5 : ∀ w ∈ wsX50, w ∈ wsX5_shipThen := by decide +kernel
  have k19 := hts (.fieldLink RX5 19 "AnchorsForConfessionModel" "out" "[I") (by decide +kernel)
  replace hl : lv_has ls 6 [(0, .ref (A 0)), (1, .int p1), (2, .int p2), (3, .int p3)] := hl
  refine lv_aload_n hx hb dX5_shipThen_0 rfl (lv_at hl 0 rfl) ?_
  refine lv_iload_n hx hb dX5_shipThen_1 rfl (lv_at hl 1 rfl) ?_
  obtain ⟨a_1, ha_1, hf⟩ := bd_e hf
  refine Ct.callV (As := [.int p1]) (rest := []) (st1 := [.int a_1]) (c_X5_isShip l D cI A M p1 a_1 ha_1) hx hb hml hown hts (cwV 1 hts gX5_shipThen_X5_isShip rfl rfl rfl hd_X5_isShip ⟨Nat.le_of_ble_eq_true rfl, Nat.le_of_ble_eq_true rfl⟩) (va_recv hK hP (ci := 5) (q0 := 0) rfl cM_at0) (Ln.id rfl) hA hK hP hD hS rfl hl.1 rfl rfl (Nat.le_of_ble_eq_true rfl) dX5_shipThen_2 (fun H locs hP hD hS => ?_)
  refine lv_if_ne (tgt := 12) hx hb dX5_shipThen_5 (by decide) (fun c_2 => ?_) (fun c_2 => ?_)
  · replace hf := if_f c_2 hf
    refine lv_iload_n hx hb dX5_shipThen_12 rfl (lv_at hl 2 rfl) ?_
    obtain ⟨a_3, ha_3, hf⟩ := bd_e hf
    refine Ct.callS (As := [.int p2]) (rest := []) (st1 := [.int a_3]) (c_X5_notTides l D cI  p2 a_3 ha_3) hx hb hml hown hts (va_cwS 1 hts gX5_shipThen_X5_notTides rfl rfl rfl hd_X5_notTides ⟨Nat.le_of_ble_eq_true rfl, Nat.le_of_ble_eq_true rfl⟩) Ln.nil hA hK hP hD hS rfl hl.1 rfl rfl (Nat.le_of_ble_eq_true rfl) dX5_shipThen_13 (fun H locs hP hD hS => ?_)
    refine lv_istore (lv' := [(4, .int a_3), (0, .ref (A 0)), (1, .int p1), (2, .int p2), (3, .int p3)]) hx hb dX5_shipThen_16 hl (by decide) rfl (fun ls hl => ?_)
    refine lv_iload hx hb dX5_shipThen_18 (lv_at hl 0 rfl) ?_
    refine lv_if_ne (tgt := 36) hx hb dX5_shipThen_20 (by decide) (fun c_4 => ?_) (fun c_4 => ?_)
    · replace hf := if_f c_4 hf
      refine lv_iload hx hb dX5_shipThen_36 (lv_at hl 0 rfl) ?_
      refine lv_if_eq (tgt := 48) hx hb dX5_shipThen_38 (by decide) (fun c_5 => ?_) (fun c_5 => ?_)
      · replace hf := if_t c_5 hf
        refine lv_aload_n hx hb dX5_shipThen_48 rfl (lv_at hl 1 rfl) ?_
        obtain ⟨a_6, ha_6, hf⟩ := bd_e hf
        refine Ct.callV (As := []) (rest := []) (st1 := []) (c_X5_thinks l D cI A M a_6 ha_6) hx hb hml hown hts (cwV 0 hts gX5_shipThen_X5_thinks rfl rfl rfl hd_X5_thinks ⟨Nat.le_of_ble_eq_true rfl, Nat.le_of_ble_eq_true rfl⟩) (va_recv hK hP (ci := 5) (q0 := 0) rfl cM_at0) (Ln.id rfl) hA hK hP hD hS rfl hl.1 rfl rfl (Nat.le_of_ble_eq_true rfl) dX5_shipThen_49 (fun H locs hP hD hS => ?_)
        replace hP : va_P D vwCl (cM cI A a_6) H := hP
        replace hD : va_D AA (cM cI A a_6) := hD
        refine lv_aload_n hx hb dX5_shipThen_52 rfl (lv_at hl 1 rfl) ?_
        refine lv_iload_n hx hb dX5_shipThen_53 rfl (lv_at hl 3 rfl) ?_
        obtain ⟨a_7, ha_7, hf⟩ := bd_e hf
        refine Ct.callV (As := [.int p2]) (rest := []) (st1 := []) (c_X5_goes l D cI A a_6 p2 a_7 ha_7) hx hb hml hown hts (cwV 1 hts gX5_shipThen_X5_goes rfl rfl rfl hd_X5_goes ⟨Nat.le_of_ble_eq_true rfl, Nat.le_of_ble_eq_true rfl⟩) (va_recv hK hP (ci := 5) (q0 := 0) rfl cM_at0) (Ln.id rfl) hA hK hP hD hS rfl hl.1 rfl rfl (Nat.le_of_ble_eq_true rfl) dX5_shipThen_54 (fun H locs hP hD hS => ?_)
        replace hP : va_P D vwCl (cM cI A a_7) H := hP
        replace hD : va_D AA (cM cI A a_7) := hD
        refine lv_iload_n hx hb dX5_shipThen_57 rfl (lv_at hl 4 rfl) ?_
        refine lv_if_ne (tgt := 70) hx hb dX5_shipThen_58 (by decide) (fun c_8 => ?_) (fun c_8 => ?_)
        · replace hf := if_f c_8 hf
          refine lv_aload_n hx hb dX5_shipThen_70 rfl (lv_at hl 1 rfl) ?_
          refine lv_iload_n hx hb dX5_shipThen_71 rfl (lv_at hl 2 rfl) ?_
          obtain ⟨a_9, ha_9, hf⟩ := bd_e hf
          refine Ct.callV (As := [.int p1]) (rest := []) (st1 := [.int a_9]) (c_X5_holds l D cI A a_7 p1 a_9 ha_9) hx hb hml hown hts (cwV 1 hts gX5_shipThen_X5_holds rfl rfl rfl hd_X5_holds ⟨Nat.le_of_ble_eq_true rfl, Nat.le_of_ble_eq_true rfl⟩) (va_recv hK hP (ci := 5) (q0 := 0) rfl cM_at0) (Ln.id rfl) hA hK hP hD hS rfl hl.1 rfl rfl (Nat.le_of_ble_eq_true rfl) dX5_shipThen_72 (fun H locs hP hD hS => ?_)
          refine lv_istore (lv' := [(5, .int a_9), (4, .int a_3), (0, .ref (A 0)), (1, .int p1), (2, .int p2), (3, .int p3)]) hx hb dX5_shipThen_75 hl (by decide) rfl (fun ls hl => ?_)
          refine lv_aload_n hx hb dX5_shipThen_77 rfl (lv_at hl 2 rfl) ?_
          obtain ⟨a_10, ha_10, hf⟩ := bd_e hf
          refine Ct.callV (As := []) (rest := []) (st1 := []) (c_X5_forgets l D cI A a_7 a_10 ha_10) hx hb hml hown hts (cwV 0 hts gX5_shipThen_X5_forgets rfl rfl rfl hd_X5_forgets ⟨Nat.le_of_ble_eq_true rfl, Nat.le_of_ble_eq_true rfl⟩) (va_recv hK hP (ci := 5) (q0 := 0) rfl cM_at0) (Ln.id rfl) hA hK hP hD hS rfl hl.1 rfl rfl (Nat.le_of_ble_eq_true rfl) dX5_shipThen_78 (fun H locs hP hD hS => ?_)
          replace hP : va_P D vwCl (cM cI A a_10) H := hP
          replace hD : va_D AA (cM cI A a_10) := hD
          refine lv_iload hx hb dX5_shipThen_81 (lv_at hl 0 rfl) ?_
          exact hend (a_9, a_10) H locs _ _ hf hP hS dX5_shipThen_83
        · replace hf := if_t c_8 hf
          refine lv_aload_n hx hb dX5_shipThen_61 rfl (lv_at hl 1 rfl) ?_
          refine va_get (D := D) (ci := 5) (v := .ref (A 4)) (C := RX5) (T := TX5) (N := 27) hx hb hts hw5 hown hK hP 0 cM_at0 rfl 3 (by decide) k19 (fun _ h9 => h9) rfl dX5_shipThen_62 ?_
          refine lv_iload_n hx hb dX5_shipThen_65 rfl (lv_at hl 2 rfl) ?_
          obtain ⟨c_11, hf⟩ := gi_e hf
          refine va_iald hx hb hK hP 4 0 cM_at4 rfl c_11 dX5_shipThen_66 ?_
          refine lv_goto (tgt := 75) hx hb dX5_shipThen_67 (by decide) ?_
          refine lv_topi (fun v_12 ev_12 => ?_)
          replace hf := nm_at ev_12 hf
          refine lv_istore (lv' := [(5, .int v_12), (4, .int a_3), (0, .ref (A 0)), (1, .int p1), (2, .int p2), (3, .int p3)]) hx hb dX5_shipThen_75 hl (by decide) rfl (fun ls hl => ?_)
          refine lv_aload_n hx hb dX5_shipThen_77 rfl (lv_at hl 2 rfl) ?_
          obtain ⟨a_13, ha_13, hf⟩ := bd_e hf
          refine Ct.callV (As := []) (rest := []) (st1 := []) (c_X5_forgets l D cI A a_7 a_13 ha_13) hx hb hml hown hts (cwV 0 hts gX5_shipThen_X5_forgets rfl rfl rfl hd_X5_forgets ⟨Nat.le_of_ble_eq_true rfl, Nat.le_of_ble_eq_true rfl⟩) (va_recv hK hP (ci := 5) (q0 := 0) rfl cM_at0) (Ln.id rfl) hA hK hP hD hS rfl hl.1 rfl rfl (Nat.le_of_ble_eq_true rfl) dX5_shipThen_78 (fun H locs hP hD hS => ?_)
          replace hP : va_P D vwCl (cM cI A a_13) H := hP
          replace hD : va_D AA (cM cI A a_13) := hD
          refine lv_iload hx hb dX5_shipThen_81 (lv_at hl 0 rfl) ?_
          exact hend (v_12, a_13) H locs _ _ hf hP hS dX5_shipThen_83
      · replace hf := if_f c_5 hf
        refine lv_aload_n hx hb dX5_shipThen_41 rfl (lv_at hl 1 rfl) ?_
        refine lv_iload hx hb dX5_shipThen_42 (lv_at hl 0 rfl) ?_
        obtain ⟨a_14, ha_14, hf⟩ := bd_e hf
        refine Ct.callV (As := [.int a_3]) (rest := []) (st1 := [.int a_14.1]) (c_X5_no l D cI A M a_3 a_14 ha_14) hx hb hml hown hts (cwV 1 hts gX5_shipThen_X5_no rfl rfl rfl hd_X5_no ⟨Nat.le_of_ble_eq_true rfl, Nat.le_of_ble_eq_true rfl⟩) (va_recv hK hP (ci := 5) (q0 := 0) rfl cM_at0) (Ln.id rfl) hA hK hP hD hS rfl hl.1 rfl rfl (Nat.le_of_ble_eq_true rfl) dX5_shipThen_44 (fun H locs hP hD hS => ?_)
        replace hP : va_P D vwCl (cM cI A a_14.2) H := hP
        replace hD : va_D AA (cM cI A a_14.2) := hD
        exact hend (a_14.1, a_14.2) H locs _ _ hf hP hS dX5_shipThen_47
    · replace hf := if_t c_4 hf
      refine lv_iload_n hx hb dX5_shipThen_23 rfl (lv_at hl 4 rfl) ?_
      refine lv_iconst (v := 0) hx hb dX5_shipThen_24 (by decide) ?_
      refine lv_iconst (v := 1) hx hb dX5_shipThen_25 (by decide) ?_
      obtain ⟨a_15, ha_15, hf⟩ := bd_e hf
      refine Ct.callS (As := [.int p3, .int (0 : Int32), .int (1 : Int32)]) (rest := []) (st1 := [.int a_15]) (c_X5_isIn l D cI  p3 (0 : Int32) (1 : Int32) a_15 ha_15) hx hb hml hown hts (va_cwS 3 hts gX5_shipThen_X5_isIn rfl rfl rfl hd_X5_isIn ⟨Nat.le_of_ble_eq_true rfl, Nat.le_of_ble_eq_true rfl⟩) Ln.nil hA hK hP hD hS rfl hl.1 rfl rfl (Nat.le_of_ble_eq_true rfl) dX5_shipThen_26 (fun H locs hP hD hS => ?_)
      refine lv_if_ne (tgt := 36) hx hb dX5_shipThen_29 (by decide) (fun c_16 => ?_) (fun c_16 => ?_)
      · replace hf := if_f c_16 hf
        refine lv_iload hx hb dX5_shipThen_36 (lv_at hl 0 rfl) ?_
        refine lv_if_eq (tgt := 48) hx hb dX5_shipThen_38 (by decide) (fun c_17 => ?_) (fun c_17 => ?_)
        · replace hf := if_t c_17 hf
          refine lv_aload_n hx hb dX5_shipThen_48 rfl (lv_at hl 1 rfl) ?_
          obtain ⟨a_18, ha_18, hf⟩ := bd_e hf
          refine Ct.callV (As := []) (rest := []) (st1 := []) (c_X5_thinks l D cI A M a_18 ha_18) hx hb hml hown hts (cwV 0 hts gX5_shipThen_X5_thinks rfl rfl rfl hd_X5_thinks ⟨Nat.le_of_ble_eq_true rfl, Nat.le_of_ble_eq_true rfl⟩) (va_recv hK hP (ci := 5) (q0 := 0) rfl cM_at0) (Ln.id rfl) hA hK hP hD hS rfl hl.1 rfl rfl (Nat.le_of_ble_eq_true rfl) dX5_shipThen_49 (fun H locs hP hD hS => ?_)
          replace hP : va_P D vwCl (cM cI A a_18) H := hP
          replace hD : va_D AA (cM cI A a_18) := hD
          refine lv_aload_n hx hb dX5_shipThen_52 rfl (lv_at hl 1 rfl) ?_
          refine lv_iload_n hx hb dX5_shipThen_53 rfl (lv_at hl 3 rfl) ?_
          obtain ⟨a_19, ha_19, hf⟩ := bd_e hf
          refine Ct.callV (As := [.int p2]) (rest := []) (st1 := []) (c_X5_goes l D cI A a_18 p2 a_19 ha_19) hx hb hml hown hts (cwV 1 hts gX5_shipThen_X5_goes rfl rfl rfl hd_X5_goes ⟨Nat.le_of_ble_eq_true rfl, Nat.le_of_ble_eq_true rfl⟩) (va_recv hK hP (ci := 5) (q0 := 0) rfl cM_at0) (Ln.id rfl) hA hK hP hD hS rfl hl.1 rfl rfl (Nat.le_of_ble_eq_true rfl) dX5_shipThen_54 (fun H locs hP hD hS => ?_)
          replace hP : va_P D vwCl (cM cI A a_19) H := hP
          replace hD : va_D AA (cM cI A a_19) := hD
          refine lv_iload_n hx hb dX5_shipThen_57 rfl (lv_at hl 4 rfl) ?_
          refine lv_if_ne (tgt := 70) hx hb dX5_shipThen_58 (by decide) (fun c_20 => ?_) (fun c_20 => ?_)
          · replace hf := if_f c_20 hf
            refine lv_aload_n hx hb dX5_shipThen_70 rfl (lv_at hl 1 rfl) ?_
            refine lv_iload_n hx hb dX5_shipThen_71 rfl (lv_at hl 2 rfl) ?_
            obtain ⟨a_21, ha_21, hf⟩ := bd_e hf
            refine Ct.callV (As := [.int p1]) (rest := []) (st1 := [.int a_21]) (c_X5_holds l D cI A a_19 p1 a_21 ha_21) hx hb hml hown hts (cwV 1 hts gX5_shipThen_X5_holds rfl rfl rfl hd_X5_holds ⟨Nat.le_of_ble_eq_true rfl, Nat.le_of_ble_eq_true rfl⟩) (va_recv hK hP (ci := 5) (q0 := 0) rfl cM_at0) (Ln.id rfl) hA hK hP hD hS rfl hl.1 rfl rfl (Nat.le_of_ble_eq_true rfl) dX5_shipThen_72 (fun H locs hP hD hS => ?_)
            refine lv_istore (lv' := [(5, .int a_21), (4, .int a_3), (0, .ref (A 0)), (1, .int p1), (2, .int p2), (3, .int p3)]) hx hb dX5_shipThen_75 hl (by decide) rfl (fun ls hl => ?_)
            refine lv_aload_n hx hb dX5_shipThen_77 rfl (lv_at hl 2 rfl) ?_
            obtain ⟨a_22, ha_22, hf⟩ := bd_e hf
            refine Ct.callV (As := []) (rest := []) (st1 := []) (c_X5_forgets l D cI A a_19 a_22 ha_22) hx hb hml hown hts (cwV 0 hts gX5_shipThen_X5_forgets rfl rfl rfl hd_X5_forgets ⟨Nat.le_of_ble_eq_true rfl, Nat.le_of_ble_eq_true rfl⟩) (va_recv hK hP (ci := 5) (q0 := 0) rfl cM_at0) (Ln.id rfl) hA hK hP hD hS rfl hl.1 rfl rfl (Nat.le_of_ble_eq_true rfl) dX5_shipThen_78 (fun H locs hP hD hS => ?_)
            replace hP : va_P D vwCl (cM cI A a_22) H := hP
            replace hD : va_D AA (cM cI A a_22) := hD
            refine lv_iload hx hb dX5_shipThen_81 (lv_at hl 0 rfl) ?_
            exact hend (a_21, a_22) H locs _ _ hf hP hS dX5_shipThen_83
          · replace hf := if_t c_20 hf
            refine lv_aload_n hx hb dX5_shipThen_61 rfl (lv_at hl 1 rfl) ?_
            refine va_get (D := D) (ci := 5) (v := .ref (A 4)) (C := RX5) (T := TX5) (N := 27) hx hb hts hw5 hown hK hP 0 cM_at0 rfl 3 (by decide) k19 (fun _ h9 => h9) rfl dX5_shipThen_62 ?_
            refine lv_iload_n hx hb dX5_shipThen_65 rfl (lv_at hl 2 rfl) ?_
            obtain ⟨c_23, hf⟩ := gi_e hf
            refine va_iald hx hb hK hP 4 0 cM_at4 rfl c_23 dX5_shipThen_66 ?_
            refine lv_goto (tgt := 75) hx hb dX5_shipThen_67 (by decide) ?_
            refine lv_topi (fun v_24 ev_24 => ?_)
            replace hf := nm_at ev_24 hf
            refine lv_istore (lv' := [(5, .int v_24), (4, .int a_3), (0, .ref (A 0)), (1, .int p1), (2, .int p2), (3, .int p3)]) hx hb dX5_shipThen_75 hl (by decide) rfl (fun ls hl => ?_)
            refine lv_aload_n hx hb dX5_shipThen_77 rfl (lv_at hl 2 rfl) ?_
            obtain ⟨a_25, ha_25, hf⟩ := bd_e hf
            refine Ct.callV (As := []) (rest := []) (st1 := []) (c_X5_forgets l D cI A a_19 a_25 ha_25) hx hb hml hown hts (cwV 0 hts gX5_shipThen_X5_forgets rfl rfl rfl hd_X5_forgets ⟨Nat.le_of_ble_eq_true rfl, Nat.le_of_ble_eq_true rfl⟩) (va_recv hK hP (ci := 5) (q0 := 0) rfl cM_at0) (Ln.id rfl) hA hK hP hD hS rfl hl.1 rfl rfl (Nat.le_of_ble_eq_true rfl) dX5_shipThen_78 (fun H locs hP hD hS => ?_)
            replace hP : va_P D vwCl (cM cI A a_25) H := hP
            replace hD : va_D AA (cM cI A a_25) := hD
            refine lv_iload hx hb dX5_shipThen_81 (lv_at hl 0 rfl) ?_
            exact hend (v_24, a_25) H locs _ _ hf hP hS dX5_shipThen_83
        · replace hf := if_f c_17 hf
          refine lv_aload_n hx hb dX5_shipThen_41 rfl (lv_at hl 1 rfl) ?_
          refine lv_iload hx hb dX5_shipThen_42 (lv_at hl 0 rfl) ?_
          obtain ⟨a_26, ha_26, hf⟩ := bd_e hf
          refine Ct.callV (As := [.int a_3]) (rest := []) (st1 := [.int a_26.1]) (c_X5_no l D cI A M a_3 a_26 ha_26) hx hb hml hown hts (cwV 1 hts gX5_shipThen_X5_no rfl rfl rfl hd_X5_no ⟨Nat.le_of_ble_eq_true rfl, Nat.le_of_ble_eq_true rfl⟩) (va_recv hK hP (ci := 5) (q0 := 0) rfl cM_at0) (Ln.id rfl) hA hK hP hD hS rfl hl.1 rfl rfl (Nat.le_of_ble_eq_true rfl) dX5_shipThen_44 (fun H locs hP hD hS => ?_)
          replace hP : va_P D vwCl (cM cI A a_26.2) H := hP
          replace hD : va_D AA (cM cI A a_26.2) := hD
          exact hend (a_26.1, a_26.2) H locs _ _ hf hP hS dX5_shipThen_47
      · replace hf := if_t c_16 hf
        refine lv_bipush (v := -2) hx hb dX5_shipThen_32 (by decide +kernel) ?_
        refine lv_istore (lv' := [(4, .int (-2 : Int32)), (0, .ref (A 0)), (1, .int p1), (2, .int p2), (3, .int p3)]) hx hb dX5_shipThen_34 hl (by decide) rfl (fun ls hl => ?_)
        refine lv_iload hx hb dX5_shipThen_36 (lv_at hl 0 rfl) ?_
        refine lv_if_eq (tgt := 48) hx hb dX5_shipThen_38 (by decide) (fun c0 => absurd c0 (by decide)) (fun _ => ?_)
        refine lv_aload_n hx hb dX5_shipThen_41 rfl (lv_at hl 1 rfl) ?_
        refine lv_iload hx hb dX5_shipThen_42 (lv_at hl 0 rfl) ?_
        obtain ⟨a_27, ha_27, hf⟩ := bd_e hf
        refine Ct.callV (As := [.int (-2 : Int32)]) (rest := []) (st1 := [.int a_27.1]) (c_X5_no l D cI A M (-2 : Int32) a_27 ha_27) hx hb hml hown hts (cwV 1 hts gX5_shipThen_X5_no rfl rfl rfl hd_X5_no ⟨Nat.le_of_ble_eq_true rfl, Nat.le_of_ble_eq_true rfl⟩) (va_recv hK hP (ci := 5) (q0 := 0) rfl cM_at0) (Ln.id rfl) hA hK hP hD hS rfl hl.1 rfl rfl (Nat.le_of_ble_eq_true rfl) dX5_shipThen_44 (fun H locs hP hD hS => ?_)
        replace hP : va_P D vwCl (cM cI A a_27.2) H := hP
        replace hD : va_D AA (cM cI A a_27.2) := hD
        exact hend (a_27.1, a_27.2) H locs _ _ hf hP hS dX5_shipThen_47
  · replace hf := if_t c_2 hf
    refine lv_iconst (v := -1) hx hb dX5_shipThen_8 (by decide) ?_
    refine lv_goto (tgt := 16) hx hb dX5_shipThen_9 (by decide) ?_
    refine lv_istore (lv' := [(4, .int (-1 : Int32)), (0, .ref (A 0)), (1, .int p1), (2, .int p2), (3, .int p3)]) hx hb dX5_shipThen_16 hl (by decide) rfl (fun ls hl => ?_)
    refine lv_iload hx hb dX5_shipThen_18 (lv_at hl 0 rfl) ?_
    refine lv_if_ne (tgt := 36) hx hb dX5_shipThen_20 (by decide) (fun _ => ?_) (fun c0 => absurd c0 (by decide))
    refine lv_iload hx hb dX5_shipThen_36 (lv_at hl 0 rfl) ?_
    refine lv_if_eq (tgt := 48) hx hb dX5_shipThen_38 (by decide) (fun c0 => absurd c0 (by decide)) (fun _ => ?_)
    refine lv_aload_n hx hb dX5_shipThen_41 rfl (lv_at hl 1 rfl) ?_
    refine lv_iload hx hb dX5_shipThen_42 (lv_at hl 0 rfl) ?_
    obtain ⟨a_28, ha_28, hf⟩ := bd_e hf
    refine Ct.callV (As := [.int (-1 : Int32)]) (rest := []) (st1 := [.int a_28.1]) (c_X5_no l D cI A M (-1 : Int32) a_28 ha_28) hx hb hml hown hts (cwV 1 hts gX5_shipThen_X5_no rfl rfl rfl hd_X5_no ⟨Nat.le_of_ble_eq_true rfl, Nat.le_of_ble_eq_true rfl⟩) (va_recv hK hP (ci := 5) (q0 := 0) rfl cM_at0) (Ln.id rfl) hA hK hP hD hS rfl hl.1 rfl rfl (Nat.le_of_ble_eq_true rfl) dX5_shipThen_44 (fun H locs hP hD hS => ?_)
    replace hP : va_P D vwCl (cM cI A a_28.2) H := hP
    replace hD : va_D AA (cM cI A a_28.2) := hD
    exact hend (a_28.1, a_28.2) H locs _ _ hf hP hS dX5_shipThen_47
