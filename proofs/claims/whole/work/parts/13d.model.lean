def rm_X5_two : Room := { frames := 6, cells := 0, slots := 0, locals := 135 }
theorem hd_X5_two : yX5_two.cls = RX5 ∧ yX5_two.cls ≠ "java/lang/invoke/MethodHandle" ∧ yX5_two.cls ≠ "java/lang/invoke/VarHandle" ∧ (parseMethodDescriptor yX5_two.desc).map (fun d => d.parameters.length) = some 2 := by decide +kernel
set_option maxRecDepth 100000 in
set_option maxHeartbeats 4000000 in
theorem c_X5_two (l : Launch) (D : va_G) (cI : ClassId) (A : Nat → Nat) (M : St) (p1 : Int32) (p2 : Int32) (r : Int32 × St) (hf : f_X5_two M p1 p2 = some r) : Ct l yX5_two wsX5_two rm_X5_two D cI (cM cI A M) (cM cI A r.2) [.ref (A 0), .int p1, .int p2] (some (.int r.1)) := by
  unfold f_X5_two at hf
  refine Ct.ofI (cc := cX5_two) (maxL := 5) (by decide +kernel) rfl (Nat.le_of_ble_eq_true rfl) ?_
  intro p e s m args below meth c AA Q H locs ls hx hb hml hown hts hA hK hP hD hS hl hend0
  have hend : ∀ (r1 : Int32 × St) (H : Heap) (locs : List Loc) (pc : Nat) (ls : Array Slot), some r1 = some r → va_P D vwCl (cM cI A r1.2) H → va_S AA s.heap H locs → decode cX5_two pc = .ok (.ireturn, 1) → W p l e rm_X5_two s m args below meth c H locs 0 0 Q (F0 m pc ls [.int r1.1]) := by
    intro r1 H locs pc ls e1 hP hS hd; cases e1; exact hend0 H locs pc ls hP hS hd
  clear hend0
  have hw5 : ∀ w ∈ wsX50, w ∈ wsX5_two := by decide +kernel
  have k52 := hts (.fieldLink RX5 52 "AnchorsForConfessionModel" "gets" "[I") (by decide +kernel)
  replace hl : lv_has ls 5 [(0, .ref (A 0)), (1, .int p1), (2, .int p2)] := hl
  refine lv_aload_n hx hb dX5_two_0 rfl (lv_at hl 0 rfl) ?_
  refine lv_iload_n hx hb dX5_two_1 rfl (lv_at hl 1 rfl) ?_
  obtain ⟨a_1, ha_1, hf⟩ := bd_e hf
  refine Ct.callV (As := [.int p1]) (rest := []) (st1 := [.int a_1]) (c_X5_isMan l D cI A M p1 a_1 ha_1) hx hb hml hown hts (cwV 1 hts gX5_two_X5_isMan rfl rfl rfl hd_X5_isMan ⟨Nat.le_of_ble_eq_true rfl, Nat.le_of_ble_eq_true rfl⟩) (va_recv hK hP (ci := 5) (q0 := 0) rfl cM_at0) (Ln.id rfl) hA hK hP hD hS rfl hl.1 rfl rfl (Nat.le_of_ble_eq_true rfl) dX5_two_2 (fun H locs hP hD hS => ?_)
  refine lv_if_eq (tgt := 21) hx hb dX5_two_5 (by decide) (fun c_2 => ?_) (fun c_2 => ?_)
  · replace hf := if_t c_2 hf
    refine lv_iconst (v := -1) hx hb dX5_two_21 (by decide) ?_
    refine lv_goto (tgt := 47) hx hb dX5_two_22 (by decide) ?_
    refine lv_istore_n (lv' := [(3, .int (-1 : Int32)), (0, .ref (A 0)), (1, .int p1), (2, .int p2)]) hx hb dX5_two_47 rfl hl (by decide) rfl (fun ls hl => ?_)
    refine lv_iload_n hx hb dX5_two_48 rfl (lv_at hl 0 rfl) ?_
    refine lv_if_eq (tgt := 58) hx hb dX5_two_49 (by decide) (fun c0 => absurd c0 (by decide)) (fun _ => ?_)
    refine lv_aload_n hx hb dX5_two_52 rfl (lv_at hl 1 rfl) ?_
    refine lv_iload_n hx hb dX5_two_53 rfl (lv_at hl 0 rfl) ?_
    obtain ⟨a_3, ha_3, hf⟩ := bd_e hf
    refine Ct.callV (As := [.int (-1 : Int32)]) (rest := []) (st1 := [.int a_3.1]) (c_X5_no l D cI A M (-1 : Int32) a_3 ha_3) hx hb hml hown hts (cwV 1 hts gX5_two_X5_no rfl rfl rfl hd_X5_no ⟨Nat.le_of_ble_eq_true rfl, Nat.le_of_ble_eq_true rfl⟩) (va_recv hK hP (ci := 5) (q0 := 0) rfl cM_at0) (Ln.id rfl) hA hK hP hD hS rfl hl.1 rfl rfl (Nat.le_of_ble_eq_true rfl) dX5_two_54 (fun H locs hP hD hS => ?_)
    replace hP : va_P D vwCl (cM cI A a_3.2) H := hP
    replace hD : va_D AA (cM cI A a_3.2) := hD
    exact hend (a_3.1, a_3.2) H locs _ _ hf hP hS dX5_two_57
  · replace hf := if_f c_2 hf
    refine lv_aload_n hx hb dX5_two_8 rfl (lv_at hl 0 rfl) ?_
    refine lv_iload_n hx hb dX5_two_9 rfl (lv_at hl 2 rfl) ?_
    obtain ⟨a_4, ha_4, hf⟩ := bd_e hf
    refine Ct.callV (As := [.int p2]) (rest := []) (st1 := [.int a_4]) (c_X5_isMan l D cI A M p2 a_4 ha_4) hx hb hml hown hts (cwV 1 hts gX5_two_X5_isMan rfl rfl rfl hd_X5_isMan ⟨Nat.le_of_ble_eq_true rfl, Nat.le_of_ble_eq_true rfl⟩) (va_recv hK hP (ci := 5) (q0 := 0) rfl cM_at0) (Ln.id rfl) hA hK hP hD hS rfl hl.1 rfl rfl (Nat.le_of_ble_eq_true rfl) dX5_two_10 (fun H locs hP hD hS => ?_)
    refine lv_if_eq (tgt := 21) hx hb dX5_two_13 (by decide) (fun c_5 => ?_) (fun c_5 => ?_)
    · replace hf := if_t c_5 hf
      refine lv_iconst (v := -1) hx hb dX5_two_21 (by decide) ?_
      refine lv_goto (tgt := 47) hx hb dX5_two_22 (by decide) ?_
      refine lv_istore_n (lv' := [(3, .int (-1 : Int32)), (0, .ref (A 0)), (1, .int p1), (2, .int p2)]) hx hb dX5_two_47 rfl hl (by decide) rfl (fun ls hl => ?_)
      refine lv_iload_n hx hb dX5_two_48 rfl (lv_at hl 0 rfl) ?_
      refine lv_if_eq (tgt := 58) hx hb dX5_two_49 (by decide) (fun c0 => absurd c0 (by decide)) (fun _ => ?_)
      refine lv_aload_n hx hb dX5_two_52 rfl (lv_at hl 1 rfl) ?_
      refine lv_iload_n hx hb dX5_two_53 rfl (lv_at hl 0 rfl) ?_
      obtain ⟨a_6, ha_6, hf⟩ := bd_e hf
      refine Ct.callV (As := [.int (-1 : Int32)]) (rest := []) (st1 := [.int a_6.1]) (c_X5_no l D cI A M (-1 : Int32) a_6 ha_6) hx hb hml hown hts (cwV 1 hts gX5_two_X5_no rfl rfl rfl hd_X5_no ⟨Nat.le_of_ble_eq_true rfl, Nat.le_of_ble_eq_true rfl⟩) (va_recv hK hP (ci := 5) (q0 := 0) rfl cM_at0) (Ln.id rfl) hA hK hP hD hS rfl hl.1 rfl rfl (Nat.le_of_ble_eq_true rfl) dX5_two_54 (fun H locs hP hD hS => ?_)
      replace hP : va_P D vwCl (cM cI A a_6.2) H := hP
      replace hD : va_D AA (cM cI A a_6.2) := hD
      exact hend (a_6.1, a_6.2) H locs _ _ hf hP hS dX5_two_57
    · replace hf := if_f c_5 hf
      refine lv_iload_n hx hb dX5_two_16 rfl (lv_at hl 1 rfl) ?_
      refine lv_iload_n hx hb dX5_two_17 rfl (lv_at hl 2 rfl) ?_
      refine lv_icmp_ne (tgt := 25) hx hb dX5_two_18 (by decide) (fun c_7 => ?_) (fun c_7 => ?_)
      · replace hf := if_f c_7 hf
        refine lv_aload_n hx hb dX5_two_25 rfl (lv_at hl 0 rfl) ?_
        refine lv_iload_n hx hb dX5_two_26 rfl (lv_at hl 1 rfl) ?_
        obtain ⟨a_8, ha_8, hf⟩ := bd_e hf
        refine Ct.callV (As := [.int p1]) (rest := []) (st1 := [.int a_8]) (c_X5_canTell l D cI A M p1 a_8 ha_8) hx hb hml hown hts (cwV 1 hts gX5_two_X5_canTell rfl rfl rfl hd_X5_canTell ⟨Nat.le_of_ble_eq_true rfl, Nat.le_of_ble_eq_true rfl⟩) (va_recv hK hP (ci := 5) (q0 := 0) rfl cM_at0) (Ln.id rfl) hA hK hP hD hS rfl hl.1 rfl rfl (Nat.le_of_ble_eq_true rfl) dX5_two_27 (fun H locs hP hD hS => ?_)
        refine lv_if_eq (tgt := 41) hx hb dX5_two_30 (by decide) (fun c_9 => ?_) (fun c_9 => ?_)
        · replace hf := if_t c_9 hf
          refine lv_bipush (v := -3) hx hb dX5_two_41 (by decide +kernel) ?_
          refine lv_goto (tgt := 47) hx hb dX5_two_43 (by decide) ?_
          refine lv_istore_n (lv' := [(3, .int (-3 : Int32)), (0, .ref (A 0)), (1, .int p1), (2, .int p2)]) hx hb dX5_two_47 rfl hl (by decide) rfl (fun ls hl => ?_)
          refine lv_iload_n hx hb dX5_two_48 rfl (lv_at hl 0 rfl) ?_
          refine lv_if_eq (tgt := 58) hx hb dX5_two_49 (by decide) (fun c0 => absurd c0 (by decide)) (fun _ => ?_)
          refine lv_aload_n hx hb dX5_two_52 rfl (lv_at hl 1 rfl) ?_
          refine lv_iload_n hx hb dX5_two_53 rfl (lv_at hl 0 rfl) ?_
          obtain ⟨a_10, ha_10, hf⟩ := bd_e hf
          refine Ct.callV (As := [.int (-3 : Int32)]) (rest := []) (st1 := [.int a_10.1]) (c_X5_no l D cI A M (-3 : Int32) a_10 ha_10) hx hb hml hown hts (cwV 1 hts gX5_two_X5_no rfl rfl rfl hd_X5_no ⟨Nat.le_of_ble_eq_true rfl, Nat.le_of_ble_eq_true rfl⟩) (va_recv hK hP (ci := 5) (q0 := 0) rfl cM_at0) (Ln.id rfl) hA hK hP hD hS rfl hl.1 rfl rfl (Nat.le_of_ble_eq_true rfl) dX5_two_54 (fun H locs hP hD hS => ?_)
          replace hP : va_P D vwCl (cM cI A a_10.2) H := hP
          replace hD : va_D AA (cM cI A a_10.2) := hD
          exact hend (a_10.1, a_10.2) H locs _ _ hf hP hS dX5_two_57
        · replace hf := if_f c_9 hf
          refine lv_aload_n hx hb dX5_two_33 rfl (lv_at hl 0 rfl) ?_
          refine lv_iload_n hx hb dX5_two_34 rfl (lv_at hl 2 rfl) ?_
          obtain ⟨a_11, ha_11, hf⟩ := bd_e hf
          refine Ct.callV (As := [.int p2]) (rest := []) (st1 := [.int a_11]) (c_X5_canTell l D cI A M p2 a_11 ha_11) hx hb hml hown hts (cwV 1 hts gX5_two_X5_canTell rfl rfl rfl hd_X5_canTell ⟨Nat.le_of_ble_eq_true rfl, Nat.le_of_ble_eq_true rfl⟩) (va_recv hK hP (ci := 5) (q0 := 0) rfl cM_at0) (Ln.id rfl) hA hK hP hD hS rfl hl.1 rfl rfl (Nat.le_of_ble_eq_true rfl) dX5_two_35 (fun H locs hP hD hS => ?_)
          refine lv_if_ne (tgt := 46) hx hb dX5_two_38 (by decide) (fun c_12 => ?_) (fun c_12 => ?_)
          · replace hf := if_f c_12 hf
            refine lv_iconst (v := 0) hx hb dX5_two_46 (by decide) ?_
            refine lv_istore_n (lv' := [(3, .int (0 : Int32)), (0, .ref (A 0)), (1, .int p1), (2, .int p2)]) hx hb dX5_two_47 rfl hl (by decide) rfl (fun ls hl => ?_)
            refine lv_iload_n hx hb dX5_two_48 rfl (lv_at hl 0 rfl) ?_
            refine lv_if_eq (tgt := 58) hx hb dX5_two_49 (by decide) (fun _ => ?_) (fun c0 => absurd c0 (by decide))
            refine lv_aload_n hx hb dX5_two_58 rfl (lv_at hl 1 rfl) ?_
            refine lv_iload_n hx hb dX5_two_59 rfl (lv_at hl 2 rfl) ?_
            refine lv_iload_n hx hb dX5_two_60 rfl (lv_at hl 3 rfl) ?_
            obtain ⟨a_13, ha_13, hf⟩ := bd_e hf
            refine Ct.callV (As := [.int p1, .int p2]) (rest := []) (st1 := []) (c_X5_findGets l D cI A M p1 p2 a_13 ha_13) hx hb hml hown hts (cwV 2 hts gX5_two_X5_findGets rfl rfl rfl hd_X5_findGets ⟨Nat.le_of_ble_eq_true rfl, Nat.le_of_ble_eq_true rfl⟩) (va_recv hK hP (ci := 5) (q0 := 0) rfl cM_at0) (Ln.id rfl) hA hK hP hD hS rfl hl.1 rfl rfl (Nat.le_of_ble_eq_true rfl) dX5_two_61 (fun H locs hP hD hS => ?_)
            replace hP : va_P D vwCl (cM cI A a_13) H := hP
            replace hD : va_D AA (cM cI A a_13) := hD
            refine lv_iconst (v := 0) hx hb dX5_two_64 (by decide) ?_
            refine lv_istore (lv' := [(4, .int (0 : Int32)), (3, .int (0 : Int32)), (0, .ref (A 0)), (1, .int p1), (2, .int p2)]) hx hb dX5_two_65 hl (by decide) rfl (fun ls hl => ?_)
            refine lp_ind (P := fun (q67 : Int32) => ∀ (H : Heap) (locs : List Loc) (ls : Array Slot), va_P D vwCl (cM cI A a_13) H → va_D AA (cM cI A a_13) → va_S AA s.heap H locs → lv_has ls 5 [(0, .ref (A 0)), (4, .int q67)] → W p l e rm_X5_two s m args below meth c H locs 0 0 Q (F0 m 67 ls [])) hf ?_ H locs ls hP hD hS (lv_sub hl [2, 0] rfl)
            clear hf hP hD hS hl
            intro nx67 ih67 q67 hf H locs ls hP hD hS hl
            refine lv_iload hx hb dX5_two_67 (lv_at hl 1 rfl) ?_
            refine lv_iconst (v := 4) hx hb dX5_two_69 (by decide) ?_
            refine lv_icmp_ge (tgt := 142) hx hb dX5_two_70 (by decide) (fun c_14 => ?_) (fun c_14 => ?_)
            · replace hf := if_t c_14 hf
              refine lv_bipush (v := -9) hx hb dX5_two_142 (by decide +kernel) ?_
              exact hend ((-9 : Int32), a_13) H locs _ _ hf hP hS dX5_two_144
            · replace hf := if_f c_14 hf
              refine lv_aload_n hx hb dX5_two_73 rfl (lv_at hl 0 rfl) ?_
              refine va_get (D := D) (ci := 5) (v := .ref (A 15)) (C := RX5) (T := TX5) (N := 27) hx hb hts hw5 hown hK hP 0 cM_at0 rfl 24 (by decide) k52 (fun _ h9 => h9) rfl dX5_two_74 ?_
              refine lv_iconst (v := 2) hx hb dX5_two_77 (by decide) ?_
              refine lv_iload hx hb dX5_two_78 (lv_at hl 1 rfl) ?_
              refine lv_iconst (v := 2) hx hb dX5_two_80 (by decide) ?_
              refine lv_ixor hx hb dX5_two_81 ?_
              refine lv_imul hx hb dX5_two_82 ?_
              obtain ⟨c_15, hf⟩ := gi_e hf
              refine va_iald hx hb hK hP 15 0 cM_at15 rfl c_15 dX5_two_83 ?_
              refine lv_aload_n hx hb dX5_two_84 rfl (lv_at hl 0 rfl) ?_
              refine va_get (D := D) (ci := 5) (v := .ref (A 15)) (C := RX5) (T := TX5) (N := 27) hx hb hts hw5 hown hK hP 0 cM_at0 rfl 24 (by decide) k52 (fun _ h9 => h9) rfl dX5_two_85 ?_
              refine lv_iconst (v := 2) hx hb dX5_two_88 (by decide) ?_
              refine lv_iload hx hb dX5_two_89 (lv_at hl 1 rfl) ?_
              refine lv_imul hx hb dX5_two_91 ?_
              obtain ⟨c_16, hf⟩ := gi_e hf
              refine va_iald hx hb hK hP 15 0 cM_at15 rfl c_16 dX5_two_92 ?_
              refine lv_icmp_gt (tgt := 136) hx hb dX5_two_93 (by decide) (fun c_17 => ?_) (fun c_17 => ?_)
              · replace hf := if_t c_17 hf
                obtain ⟨v_18, ev_18, hf⟩ := nq_e hf
                refine lv_iinc (v := v_18) (lv' := [(4, .int v_18), (0, .ref (A 0))]) hx hb dX5_two_136 hl (k := 1) rfl (by rw [ev_18]; rfl) (by decide) rfl (fun ls hl => ?_)
                refine lv_goto (tgt := 67) hx hb dX5_two_139 (by decide) ?_
                exact ih67 v_18 hf H locs ls hP hD hS (lv_sub hl [1, 0] rfl)
              · replace hf := if_f c_17 hf
                refine lv_aload_n hx hb dX5_two_96 rfl (lv_at hl 0 rfl) ?_
                refine va_get (D := D) (ci := 5) (v := .ref (A 15)) (C := RX5) (T := TX5) (N := 27) hx hb hts hw5 hown hK hP 0 cM_at0 rfl 24 (by decide) k52 (fun _ h9 => h9) rfl dX5_two_97 ?_
                refine lv_iconst (v := 2) hx hb dX5_two_100 (by decide) ?_
                refine lv_iload hx hb dX5_two_101 (lv_at hl 1 rfl) ?_
                refine lv_iconst (v := 1) hx hb dX5_two_103 (by decide) ?_
                refine lv_ixor hx hb dX5_two_104 ?_
                refine lv_imul hx hb dX5_two_105 ?_
                refine lv_iconst (v := 1) hx hb dX5_two_106 (by decide) ?_
                refine lv_iadd hx hb dX5_two_107 ?_
                obtain ⟨c_19, hf⟩ := gi_e hf
                refine va_iald hx hb hK hP 15 0 cM_at15 rfl c_19 dX5_two_108 ?_
                refine lv_aload_n hx hb dX5_two_109 rfl (lv_at hl 0 rfl) ?_
                refine va_get (D := D) (ci := 5) (v := .ref (A 15)) (C := RX5) (T := TX5) (N := 27) hx hb hts hw5 hown hK hP 0 cM_at0 rfl 24 (by decide) k52 (fun _ h9 => h9) rfl dX5_two_110 ?_
                refine lv_iconst (v := 2) hx hb dX5_two_113 (by decide) ?_
                refine lv_iload hx hb dX5_two_114 (lv_at hl 1 rfl) ?_
                refine lv_imul hx hb dX5_two_116 ?_
                refine lv_iconst (v := 1) hx hb dX5_two_117 (by decide) ?_
                refine lv_iadd hx hb dX5_two_118 ?_
                obtain ⟨c_20, hf⟩ := gi_e hf
                refine va_iald hx hb hK hP 15 0 cM_at15 rfl c_20 dX5_two_119 ?_
                refine lv_icmp_gt (tgt := 136) hx hb dX5_two_120 (by decide) (fun c_21 => ?_) (fun c_21 => ?_)
                · replace hf := if_t c_21 hf
                  obtain ⟨v_22, ev_22, hf⟩ := nq_e hf
                  refine lv_iinc (v := v_22) (lv' := [(4, .int v_22), (0, .ref (A 0))]) hx hb dX5_two_136 hl (k := 1) rfl (by rw [ev_22]; rfl) (by decide) rfl (fun ls hl => ?_)
                  refine lv_goto (tgt := 67) hx hb dX5_two_139 (by decide) ?_
                  exact ih67 v_22 hf H locs ls hP hD hS (lv_sub hl [1, 0] rfl)
                · replace hf := if_f c_21 hf
                  refine lv_bipush (v := 10) hx hb dX5_two_123 (by decide +kernel) ?_
                  refine lv_iload hx hb dX5_two_125 (lv_at hl 1 rfl) ?_
                  refine lv_iconst (v := 2) hx hb dX5_two_127 (by decide) ?_
                  refine lv_idiv hx hb dX5_two_128 (by decide) ?_
                  refine lv_imul hx hb dX5_two_129 ?_
                  refine lv_iload hx hb dX5_two_130 (lv_at hl 1 rfl) ?_
                  refine lv_iconst (v := 2) hx hb dX5_two_132 (by decide) ?_
                  refine lv_irem hx hb dX5_two_133 (by decide) ?_
                  refine lv_iadd hx hb dX5_two_134 ?_
                  exact hend ((((10 : Int32) * (q67 / (2 : Int32))) + (q67 - q67 / (2 : Int32) * (2 : Int32))), a_13) H locs _ _ hf hP hS dX5_two_135
          · replace hf := if_t c_12 hf
            refine lv_bipush (v := -3) hx hb dX5_two_41 (by decide +kernel) ?_
            refine lv_goto (tgt := 47) hx hb dX5_two_43 (by decide) ?_
            refine lv_istore_n (lv' := [(3, .int (-3 : Int32)), (0, .ref (A 0)), (1, .int p1), (2, .int p2)]) hx hb dX5_two_47 rfl hl (by decide) rfl (fun ls hl => ?_)
            refine lv_iload_n hx hb dX5_two_48 rfl (lv_at hl 0 rfl) ?_
            refine lv_if_eq (tgt := 58) hx hb dX5_two_49 (by decide) (fun c0 => absurd c0 (by decide)) (fun _ => ?_)
            refine lv_aload_n hx hb dX5_two_52 rfl (lv_at hl 1 rfl) ?_
            refine lv_iload_n hx hb dX5_two_53 rfl (lv_at hl 0 rfl) ?_
            obtain ⟨a_25, ha_25, hf⟩ := bd_e hf
            refine Ct.callV (As := [.int (-3 : Int32)]) (rest := []) (st1 := [.int a_25.1]) (c_X5_no l D cI A M (-3 : Int32) a_25 ha_25) hx hb hml hown hts (cwV 1 hts gX5_two_X5_no rfl rfl rfl hd_X5_no ⟨Nat.le_of_ble_eq_true rfl, Nat.le_of_ble_eq_true rfl⟩) (va_recv hK hP (ci := 5) (q0 := 0) rfl cM_at0) (Ln.id rfl) hA hK hP hD hS rfl hl.1 rfl rfl (Nat.le_of_ble_eq_true rfl) dX5_two_54 (fun H locs hP hD hS => ?_)
            replace hP : va_P D vwCl (cM cI A a_25.2) H := hP
            replace hD : va_D AA (cM cI A a_25.2) := hD
            exact hend (a_25.1, a_25.2) H locs _ _ hf hP hS dX5_two_57
      · replace hf := if_t c_7 hf
        refine lv_iconst (v := -1) hx hb dX5_two_21 (by decide) ?_
        refine lv_goto (tgt := 47) hx hb dX5_two_22 (by decide) ?_
        refine lv_istore_n (lv' := [(3, .int (-1 : Int32)), (0, .ref (A 0)), (1, .int p1), (2, .int p2)]) hx hb dX5_two_47 rfl hl (by decide) rfl (fun ls hl => ?_)
        refine lv_iload_n hx hb dX5_two_48 rfl (lv_at hl 0 rfl) ?_
        refine lv_if_eq (tgt := 58) hx hb dX5_two_49 (by decide) (fun c0 => absurd c0 (by decide)) (fun _ => ?_)
        refine lv_aload_n hx hb dX5_two_52 rfl (lv_at hl 1 rfl) ?_
        refine lv_iload_n hx hb dX5_two_53 rfl (lv_at hl 0 rfl) ?_
        obtain ⟨a_26, ha_26, hf⟩ := bd_e hf
        refine Ct.callV (As := [.int (-1 : Int32)]) (rest := []) (st1 := [.int a_26.1]) (c_X5_no l D cI A M (-1 : Int32) a_26 ha_26) hx hb hml hown hts (cwV 1 hts gX5_two_X5_no rfl rfl rfl hd_X5_no ⟨Nat.le_of_ble_eq_true rfl, Nat.le_of_ble_eq_true rfl⟩) (va_recv hK hP (ci := 5) (q0 := 0) rfl cM_at0) (Ln.id rfl) hA hK hP hD hS rfl hl.1 rfl rfl (Nat.le_of_ble_eq_true rfl) dX5_two_54 (fun H locs hP hD hS => ?_)
        replace hP : va_P D vwCl (cM cI A a_26.2) H := hP
        replace hD : va_D AA (cM cI A a_26.2) := hD
        exact hend (a_26.1, a_26.2) H locs _ _ hf hP hS dX5_two_57

def rm_X5_divisor : Room := { frames := 0, cells := 0, slots := 0, locals := 0 }
theorem hd_X5_divisor : yX5_divisor.cls ≠ "java/lang/invoke/MethodHandle" ∧ yX5_divisor.cls ≠ "java/lang/invoke/VarHandle" ∧ (parseMethodDescriptor yX5_divisor.desc).map (fun d => d.parameters.length) = some 2 := by decide +kernel
set_option maxRecDepth 100000 in
set_option maxHeartbeats 4000000 in
theorem c_X5_divisor (l : Launch) (D : va_G) (cI : ClassId) (p1 : Int64) (p2 : Int64) (r : Int64) (hf : f_X5_divisor p1 p2 = some r) : Ct l yX5_divisor wsX5_divisor rm_X5_divisor D cI [] [] [.long p1, .long p2] (some (.long r)) := by
  unfold f_X5_divisor at hf
  refine Ct.ofL (cc := cX5_divisor) (maxL := 10) (by decide +kernel) rfl (Nat.le_of_ble_eq_true rfl) ?_
  intro p e s m args below meth c AA Q H locs ls hx hb hml hown hts hA hK hP hD hS hl hend0
  have hend : ∀ (r1 : Int64) (H : Heap) (locs : List Loc) (pc : Nat) (ls : Array Slot), some r1 = some r → va_P D vwCl [] H → va_S AA s.heap H locs → decode cX5_divisor pc = .ok (.lreturn, 1) → W p l e rm_X5_divisor s m args below meth c H locs 0 0 Q (F0 m pc ls [.long r1]) := by
    intro r1 H locs pc ls e1 hP hS hd; cases e1; exact hend0 H locs pc ls hP hS hd
  clear hend0
  replace hl : lv_has ls 10 [(0, .long p1), (2, .long p2)] := hl
  refine lv_lload_n hx hb dX5_divisor_0 rfl (lv_at hl 0 rfl) ?_
  refine lv_lstore (lv' := [(4, .long p1), (0, .long p1), (2, .long p2)]) hx hb dX5_divisor_1 hl (by decide) rfl (fun ls hl => ?_)
  refine lv_lload_n hx hb dX5_divisor_3 rfl (lv_at hl 2 rfl) ?_
  refine lv_lstore (lv' := [(6, .long p2), (4, .long p1), (0, .long p1), (2, .long p2)]) hx hb dX5_divisor_4 hl (by decide) rfl (fun ls hl => ?_)
  refine lp_ind (P := fun (q6 : Int64 × Int64) => ∀ (H : Heap) (locs : List Loc) (ls : Array Slot), va_P D vwCl [] H → va_D AA [] → va_S AA s.heap H locs → lv_has ls 10 [(4, .long q6.1), (6, .long q6.2)] → W p l e rm_X5_divisor s m args below meth c H locs 0 0 Q (F0 m 6 ls [])) hf ?_ H locs ls hP hD hS (lv_sub hl [1, 0] rfl)
  clear hf hP hD hS hl
  intro nx6 ih6 q6 hf H locs ls hP hD hS hl
  refine lv_lload hx hb dX5_divisor_6 (lv_at hl 1 rfl) ?_
  refine lv_lconst (v := 0) hx hb dX5_divisor_8 (by decide) ?_
  refine W.lcmp hx hb dX5_divisor_9 ?_
  refine lv_if_eq (tgt := 31) hx hb dX5_divisor_10 (by decide) (fun c_1 => ?_) (fun c_1 => ?_)
  · replace hf := if_t c_1 hf
    refine lv_lload hx hb dX5_divisor_31 (lv_at hl 0 rfl) ?_
    exact hend q6.1 H locs _ _ hf hP hS dX5_divisor_33
  · replace hf := if_f c_1 hf
    refine lv_lload hx hb dX5_divisor_13 (lv_at hl 0 rfl) ?_
    refine lv_lload hx hb dX5_divisor_15 (lv_at hl 1 rfl) ?_
    obtain ⟨c_2, hf⟩ := gd_e hf
    refine lv_lrem hx hb dX5_divisor_17 c_2 ?_
    refine lv_topl (fun v_3 ev_3 => ?_)
    replace hf := nm_at ev_3 hf
    refine lv_lstore (lv' := [(8, .long v_3), (4, .long q6.1), (6, .long q6.2)]) hx hb dX5_divisor_18 hl (by decide) rfl (fun ls hl => ?_)
    refine lv_lload hx hb dX5_divisor_20 (lv_at hl 2 rfl) ?_
    refine lv_lstore (lv' := [(4, .long q6.2), (8, .long v_3), (6, .long q6.2)]) hx hb dX5_divisor_22 hl (by decide) rfl (fun ls hl => ?_)
    refine lv_lload hx hb dX5_divisor_24 (lv_at hl 1 rfl) ?_
    refine lv_lstore (lv' := [(6, .long v_3), (4, .long q6.2), (8, .long v_3)]) hx hb dX5_divisor_26 hl (by decide) rfl (fun ls hl => ?_)
    refine lv_goto (tgt := 6) hx hb dX5_divisor_28 (by decide) ?_
    exact ih6 (q6.2, v_3) hf H locs ls hP hD hS (lv_sub hl [1, 0] rfl)

def rm_X5_partOf : Room := { frames := 1, cells := 0, slots := 0, locals := 29 }
theorem hd_X5_partOf : yX5_partOf.cls ≠ "java/lang/invoke/MethodHandle" ∧ yX5_partOf.cls ≠ "java/lang/invoke/VarHandle" ∧ (parseMethodDescriptor yX5_partOf.desc).map (fun d => d.parameters.length) = some 3 := by decide +kernel
set_option maxRecDepth 100000 in
set_option maxHeartbeats 4000000 in
theorem c_X5_partOf (l : Launch) (D : va_G) (cI : ClassId) (p1 : Int64) (p2 : Int64) (p3 : Int32) (r : Int64) (hf : f_X5_partOf p1 p2 p3 = some r) : Ct l yX5_partOf wsX5_partOf rm_X5_partOf D cI [] [] [.long p1, .long p2, .int p3] (some (.long r)) := by
  unfold f_X5_partOf at hf
  refine Ct.ofL (cc := cX5_partOf) (maxL := 5) (by decide +kernel) rfl (Nat.le_of_ble_eq_true rfl) ?_
  intro p e s m args below meth c AA Q H locs ls hx hb hml hown hts hA hK hP hD hS hl hend0
  have hend : ∀ (r1 : Int64) (H : Heap) (locs : List Loc) (pc : Nat) (ls : Array Slot), some r1 = some r → va_P D vwCl [] H → va_S AA s.heap H locs → decode cX5_partOf pc = .ok (.lreturn, 1) → W p l e rm_X5_partOf s m args below meth c H locs 0 0 Q (F0 m pc ls [.long r1]) := by
    intro r1 H locs pc ls e1 hP hS hd; cases e1; exact hend0 H locs pc ls hP hS hd
  clear hend0
  replace hl : lv_has ls 5 [(0, .long p1), (2, .long p2), (4, .int p3)] := hl
  refine lv_iload hx hb dX5_partOf_0 (lv_at hl 2 rfl) ?_
  refine lv_if_ne (tgt := 9) hx hb dX5_partOf_2 (by decide) (fun c_1 => ?_) (fun c_1 => ?_)
  · replace hf := if_f c_1 hf
    refine lv_lload_n hx hb dX5_partOf_9 rfl (lv_at hl 1 rfl) ?_
    refine lv_lload_n hx hb dX5_partOf_10 rfl (lv_at hl 0 rfl) ?_
    refine lv_lload_n hx hb dX5_partOf_11 rfl (lv_at hl 1 rfl) ?_
    obtain ⟨a_2, ha_2, hf⟩ := bd_e hf
    refine Ct.callS (As := [.long p1, .long p2]) (rest := [.long p2]) (st1 := [.long a_2, .long p2]) (c_X5_divisor l D cI  p1 p2 a_2 ha_2) hx hb hml hown hts (va_cwS 2 hts gX5_partOf_X5_divisor rfl rfl rfl hd_X5_divisor ⟨Nat.le_of_ble_eq_true rfl, Nat.le_of_ble_eq_true rfl⟩) (Ln.id rfl) hA hK hP hD hS rfl hl.1 rfl rfl (Nat.le_of_ble_eq_true rfl) dX5_partOf_12 (fun H locs hP hD hS => ?_)
    obtain ⟨c_3, hf⟩ := gd_e hf
    refine lv_ldiv hx hb dX5_partOf_15 c_3 ?_
    exact hend (p2 / a_2) H locs _ _ hf hP hS dX5_partOf_16
  · replace hf := if_t c_1 hf
    refine lv_lload_n hx hb dX5_partOf_5 rfl (lv_at hl 0 rfl) ?_
    refine lv_goto (tgt := 10) hx hb dX5_partOf_6 (by decide) ?_
    refine lv_lload_n hx hb dX5_partOf_10 rfl (lv_at hl 0 rfl) ?_
    refine lv_lload_n hx hb dX5_partOf_11 rfl (lv_at hl 1 rfl) ?_
    obtain ⟨a_4, ha_4, hf⟩ := bd_e hf
    refine Ct.callS (As := [.long p1, .long p2]) (rest := [.long p1]) (st1 := [.long a_4, .long p1]) (c_X5_divisor l D cI  p1 p2 a_4 ha_4) hx hb hml hown hts (va_cwS 2 hts gX5_partOf_X5_divisor rfl rfl rfl hd_X5_divisor ⟨Nat.le_of_ble_eq_true rfl, Nat.le_of_ble_eq_true rfl⟩) (Ln.id rfl) hA hK hP hD hS rfl hl.1 rfl rfl (Nat.le_of_ble_eq_true rfl) dX5_partOf_12 (fun H locs hP hD hS => ?_)
    obtain ⟨c_5, hf⟩ := gd_e hf
    refine lv_ldiv hx hb dX5_partOf_15 c_5 ?_
    exact hend (p1 / a_4) H locs _ _ hf hP hS dX5_partOf_16

def rm_X5_storms : Room := { frames := 2, cells := 0, slots := 0, locals := 43 }
theorem hd_X5_storms : yX5_storms.cls = RX5 ∧ yX5_storms.cls ≠ "java/lang/invoke/MethodHandle" ∧ yX5_storms.cls ≠ "java/lang/invoke/VarHandle" ∧ (parseMethodDescriptor yX5_storms.desc).map (fun d => d.parameters.length) = some 0 := by decide +kernel
set_option maxRecDepth 100000 in
set_option maxHeartbeats 4000000 in
theorem c_X5_storms (l : Launch) (D : va_G) (cI : ClassId) (A : Nat → Nat) (M : St) (r : St) (hf : f_X5_storms M = some r) : Ct l yX5_storms wsX5_storms rm_X5_storms D cI (cM cI A M) (cM cI A r) [.ref (A 0)] none := by
  unfold f_X5_storms at hf
  refine Ct.ofV (cc := cX5_storms) (maxL := 2) (by decide +kernel) rfl (Nat.le_of_ble_eq_true rfl) ?_
  intro p e s m args below meth c AA Q H locs ls hx hb hml hown hts hA hK hP hD hS hl hend0
  have hend : ∀ (r1 : St) (H : Heap) (locs : List Loc) (pc : Nat) (ls : Array Slot), some r1 = some r → va_P D vwCl (cM cI A r1) H → va_S AA s.heap H locs → decode cX5_storms pc = .ok (.return_, 1) → W p l e rm_X5_storms s m args below meth c H locs 0 0 Q (F0 m pc ls []) := by
    intro r1 H locs pc ls e1 hP hS hd; cases e1; exact hend0 H locs pc ls hP hS hd
  clear hend0
  have hw5 : ∀ w ∈ wsX50, w ∈ wsX5_storms := by decide +kernel
  have k16 := hts (.fieldLink RX5 16 "AnchorsForConfessionModel" "loose" "[I") (by decide +kernel)
  have k19 := hts (.fieldLink RX5 19 "AnchorsForConfessionModel" "out" "[I") (by decide +kernel)
  have k58 := hts (.fieldLink RX5 58 "AnchorsForConfessionModel" "ships" "I") (by decide +kernel)
  replace hl : lv_has ls 2 [(0, .ref (A 0))] := hl
  refine lv_iconst (v := 0) hx hb dX5_storms_0 (by decide) ?_
  refine lv_istore_n (lv' := [(1, .int (0 : Int32)), (0, .ref (A 0))]) hx hb dX5_storms_1 rfl hl (by decide) rfl (fun ls hl => ?_)
  refine lp_ind (P := fun (q2 : Int32 × St) => ∀ (H : Heap) (locs : List Loc) (ls : Array Slot), va_P D vwCl (cM cI A q2.2) H → va_D AA (cM cI A q2.2) → va_S AA s.heap H locs → lv_has ls 2 [(0, .ref (A 0)), (1, .int q2.1)] → W p l e rm_X5_storms s m args below meth c H locs 0 0 Q (F0 m 2 ls [])) hf ?_ H locs ls hP hD hS (lv_sub hl [1, 0] rfl)
  clear hf hP hD hS hl
  intro nx2 ih2 q2 hf H locs ls hP hD hS hl
  refine lv_iload_n hx hb dX5_storms_2 rfl (lv_at hl 1 rfl) ?_
  refine lv_aload_n hx hb dX5_storms_3 rfl (lv_at hl 0 rfl) ?_
  refine va_get (D := D) (ci := 5) (v := .int (q2.2 16 0)) (C := RX5) (T := TX5) (N := 27) hx hb hts hw5 hown hK hP 0 cM_at0 rfl 8 (by decide) k58 (fun _ h9 => h9) rfl dX5_storms_4 ?_
  refine lv_icmp_ge (tgt := 49) hx hb dX5_storms_7 (by decide) (fun c_1 => ?_) (fun c_1 => ?_)
  · replace hf := if_t c_1 hf
    refine lv_aload_n hx hb dX5_storms_49 rfl (lv_at hl 0 rfl) ?_
    obtain ⟨a_2, ha_2, hf⟩ := bd_e hf
    refine Ct.callV (As := []) (rest := []) (st1 := [.int a_2.1]) (c_X5_rises l D cI A q2.2 a_2 ha_2) hx hb hml hown hts (cwV 0 hts gX5_storms_X5_rises rfl rfl rfl hd_X5_rises ⟨Nat.le_of_ble_eq_true rfl, Nat.le_of_ble_eq_true rfl⟩) (va_recv hK hP (ci := 5) (q0 := 0) rfl cM_at0) (Ln.id rfl) hA hK hP hD hS rfl hl.1 rfl rfl (Nat.le_of_ble_eq_true rfl) dX5_storms_50 (fun H locs hP hD hS => ?_)
    replace hP : va_P D vwCl (cM cI A a_2.2) H := hP
    replace hD : va_D AA (cM cI A a_2.2) := hD
    refine lv_pop hx hb dX5_storms_53 rfl ?_
    exact hend a_2.2 H locs _ _ hf hP hS dX5_storms_54
  · replace hf := if_f c_1 hf
    refine lv_aload_n hx hb dX5_storms_10 rfl (lv_at hl 0 rfl) ?_
    refine va_get (D := D) (ci := 5) (v := .ref (A 3)) (C := RX5) (T := TX5) (N := 27) hx hb hts hw5 hown hK hP 0 cM_at0 rfl 2 (by decide) k16 (fun _ h9 => h9) rfl dX5_storms_11 ?_
    refine lv_iload_n hx hb dX5_storms_14 rfl (lv_at hl 1 rfl) ?_
    refine lv_aload_n hx hb dX5_storms_15 rfl (lv_at hl 0 rfl) ?_
    refine va_get (D := D) (ci := 5) (v := .ref (A 4)) (C := RX5) (T := TX5) (N := 27) hx hb hts hw5 hown hK hP 0 cM_at0 rfl 3 (by decide) k19 (fun _ h9 => h9) rfl dX5_storms_16 ?_
    refine lv_iload_n hx hb dX5_storms_19 rfl (lv_at hl 1 rfl) ?_
    obtain ⟨c_3, hf⟩ := gi_e hf
    refine va_iald hx hb hK hP 4 0 cM_at4 rfl c_3 dX5_storms_20 ?_
    refine lv_if_le (tgt := 28) hx hb dX5_storms_21 (by decide) (fun c_4 => ?_) (fun c_4 => ?_)
    · replace hf := if_t c_4 hf
      refine lv_aload_n hx hb dX5_storms_28 rfl (lv_at hl 0 rfl) ?_
      refine va_get (D := D) (ci := 5) (v := .ref (A 3)) (C := RX5) (T := TX5) (N := 27) hx hb hts hw5 hown hK hP 0 cM_at0 rfl 2 (by decide) k16 (fun _ h9 => h9) rfl dX5_storms_29 ?_
      refine lv_iload_n hx hb dX5_storms_32 rfl (lv_at hl 1 rfl) ?_
      obtain ⟨c_5, hf⟩ := gi_e hf
      refine va_iald hx hb hK hP 3 0 cM_at3 rfl c_5 dX5_storms_33 ?_
      refine lv_iconst (v := 2) hx hb dX5_storms_34 (by decide) ?_
      refine lv_iadd hx hb dX5_storms_35 ?_
      refine lv_iconst (v := 0) hx hb dX5_storms_36 (by decide) ?_
      refine lv_bipush (v := 99) hx hb dX5_storms_37 (by decide +kernel) ?_
      obtain ⟨a_6, ha_6, hf⟩ := bd_e hf
      refine Ct.callS (As := [.int ((q2.2 2 (q2.1).toNatClampNeg) + (2 : Int32)), .int (0 : Int32), .int (99 : Int32)]) (rest := [.int q2.1, .ref (A 3)]) (st1 := [.int a_6, .int q2.1, .ref (A 3)]) (c_X5_held l D cI  ((q2.2 2 (q2.1).toNatClampNeg) + (2 : Int32)) (0 : Int32) (99 : Int32) a_6 ha_6) hx hb hml hown hts (va_cwS 3 hts gX5_storms_X5_held rfl rfl rfl hd_X5_held ⟨Nat.le_of_ble_eq_true rfl, Nat.le_of_ble_eq_true rfl⟩) Ln.nil hA hK hP hD hS rfl hl.1 rfl rfl (Nat.le_of_ble_eq_true rfl) dX5_storms_39 (fun H locs hP hD hS => ?_)
      obtain ⟨c_7, hf⟩ := gi_e hf
      refine va_iast hx hb hK hP hD hS 3 0 cM_at3 rfl c_7 dX5_storms_42 (fun H locs hP hD hS => ?_)
      obtain ⟨h_8, eh_8, hf⟩ := nq_e hf
      rw [cM_su3, ← eh_8] at hP hD
      obtain ⟨v_9, ev_9, hf⟩ := nq_e hf
      refine lv_iinc (v := v_9) (lv' := [(1, .int v_9), (0, .ref (A 0))]) hx hb dX5_storms_43 hl (k := 1) rfl (by rw [ev_9]; rfl) (by decide) rfl (fun ls hl => ?_)
      refine lv_goto (tgt := 2) hx hb dX5_storms_46 (by decide) ?_
      exact ih2 (v_9, h_8) hf H locs ls hP hD hS (lv_sub hl [1, 0] rfl)
    · replace hf := if_f c_4 hf
      refine lv_iconst (v := 0) hx hb dX5_storms_24 (by decide) ?_
      refine lv_goto (tgt := 42) hx hb dX5_storms_25 (by decide) ?_
      obtain ⟨c_10, hf⟩ := gi_e hf
      refine va_iast hx hb hK hP hD hS 3 0 cM_at3 rfl c_10 dX5_storms_42 (fun H locs hP hD hS => ?_)
      obtain ⟨h_11, eh_11, hf⟩ := nq_e hf
      rw [cM_su3, ← eh_11] at hP hD
      obtain ⟨v_12, ev_12, hf⟩ := nq_e hf
      refine lv_iinc (v := v_12) (lv' := [(1, .int v_12), (0, .ref (A 0))]) hx hb dX5_storms_43 hl (k := 1) rfl (by rw [ev_12]; rfl) (by decide) rfl (fun ls hl => ?_)
      refine lv_goto (tgt := 2) hx hb dX5_storms_46 (by decide) ?_
      exact ih2 (v_12, h_11) hf H locs ls hP hD hS (lv_sub hl [1, 0] rfl)

def rm_X5_storm : Room := { frames := 3, cells := 0, slots := 0, locals := 64 }
theorem hd_X5_storm : yX5_storm.cls = RX5 ∧ yX5_storm.cls ≠ "java/lang/invoke/MethodHandle" ∧ yX5_storm.cls ≠ "java/lang/invoke/VarHandle" ∧ (parseMethodDescriptor yX5_storm.desc).map (fun d => d.parameters.length) = some 4 := by decide +kernel
set_option maxRecDepth 100000 in
set_option maxHeartbeats 4000000 in
theorem c_X5_storm (l : Launch) (D : va_G) (cI : ClassId) (A : Nat → Nat) (M : St) (p1 : Int32) (p2 : Int32) (p3 : Int32) (p4 : Int32) (r : Int64 × St) (hf : f_X5_storm M p1 p2 p3 p4 = some r) : Ct l yX5_storm wsX5_storm rm_X5_storm D cI (cM cI A M) (cM cI A r.2) [.ref (A 0), .int p1, .int p2, .int p3, .int p4] (some (.long r.1)) := by
  unfold f_X5_storm at hf
  refine Ct.ofL (cc := cX5_storm) (maxL := 14) (by decide +kernel) rfl (Nat.le_of_ble_eq_true rfl) ?_
  intro p e s m args below meth c AA Q H locs ls hx hb hml hown hts hA hK hP hD hS hl hend0
  have hend : ∀ (r1 : Int64 × St) (H : Heap) (locs : List Loc) (pc : Nat) (ls : Array Slot), some r1 = some r → va_P D vwCl (cM cI A r1.2) H → va_S AA s.heap H locs → decode cX5_storm pc = .ok (.lreturn, 1) → W p l e rm_X5_storm s m args below meth c H locs 0 0 Q (F0 m pc ls [.long r1.1]) := by
    intro r1 H locs pc ls e1 hP hS hd; cases e1; exact hend0 H locs pc ls hP hS hd
  clear hend0
  have hw5 : ∀ w ∈ wsX50, w ∈ wsX5_storm := by decide +kernel
  have k19 := hts (.fieldLink RX5 19 "AnchorsForConfessionModel" "out" "[I") (by decide +kernel)
  replace hl : lv_has ls 14 [(0, .ref (A 0)), (1, .int p1), (2, .int p2), (3, .int p3), (4, .int p4)] := hl
  refine lv_aload_n hx hb dX5_storm_0 rfl (lv_at hl 0 rfl) ?_
  refine lv_iload_n hx hb dX5_storm_1 rfl (lv_at hl 1 rfl) ?_
  obtain ⟨a_1, ha_1, hf⟩ := bd_e hf
  refine Ct.callV (As := [.int p1]) (rest := []) (st1 := [.int a_1]) (c_X5_isShip l D cI A M p1 a_1 ha_1) hx hb hml hown hts (cwV 1 hts gX5_storm_X5_isShip rfl rfl rfl hd_X5_isShip ⟨Nat.le_of_ble_eq_true rfl, Nat.le_of_ble_eq_true rfl⟩) (va_recv hK hP (ci := 5) (q0 := 0) rfl cM_at0) (Ln.id rfl) hA hK hP hD hS rfl hl.1 rfl rfl (Nat.le_of_ble_eq_true rfl) dX5_storm_2 (fun H locs hP hD hS => ?_)
  refine lv_if_ne (tgt := 12) hx hb dX5_storm_5 (by decide) (fun c_2 => ?_) (fun c_2 => ?_)
  · replace hf := if_f c_2 hf
    refine lv_iload_n hx hb dX5_storm_12 rfl (lv_at hl 2 rfl) ?_
    refine lv_if_lt (tgt := 21) hx hb dX5_storm_13 (by decide) (fun c_3 => ?_) (fun c_3 => ?_)
    · replace hf := if_t c_3 hf
      refine lv_bipush (v := -4) hx hb dX5_storm_21 (by decide +kernel) ?_
      refine lv_goto (tgt := 59) hx hb dX5_storm_23 (by decide) ?_
      refine lv_istore (lv' := [(5, .int (-4 : Int32)), (0, .ref (A 0)), (1, .int p1), (2, .int p2), (3, .int p3), (4, .int p4)]) hx hb dX5_storm_59 hl (by decide) rfl (fun ls hl => ?_)
      refine lv_iload hx hb dX5_storm_61 (lv_at hl 0 rfl) ?_
      refine lv_if_eq (tgt := 73) hx hb dX5_storm_63 (by decide) (fun c0 => absurd c0 (by decide)) (fun _ => ?_)
      refine lv_aload_n hx hb dX5_storm_66 rfl (lv_at hl 1 rfl) ?_
      refine lv_iload hx hb dX5_storm_67 (lv_at hl 0 rfl) ?_
      obtain ⟨a_4, ha_4, hf⟩ := bd_e hf
      refine Ct.callV (As := [.int (-4 : Int32)]) (rest := []) (st1 := [.long a_4.1]) (c_X5_lowestOf l D cI A M (-4 : Int32) a_4 ha_4) hx hb hml hown hts (cwV 1 hts gX5_storm_X5_lowestOf rfl rfl rfl hd_X5_lowestOf ⟨Nat.le_of_ble_eq_true rfl, Nat.le_of_ble_eq_true rfl⟩) (va_recv hK hP (ci := 5) (q0 := 0) rfl cM_at0) (Ln.id rfl) hA hK hP hD hS rfl hl.1 rfl rfl (Nat.le_of_ble_eq_true rfl) dX5_storm_69 (fun H locs hP hD hS => ?_)
      replace hP : va_P D vwCl (cM cI A a_4.2) H := hP
      replace hD : va_D AA (cM cI A a_4.2) := hD
      exact hend (a_4.1, a_4.2) H locs _ _ hf hP hS dX5_storm_72
    · replace hf := if_f c_3 hf
      refine lv_iload_n hx hb dX5_storm_16 rfl (lv_at hl 3 rfl) ?_
      refine lv_iconst (v := 2) hx hb dX5_storm_17 (by decide) ?_
      refine lv_icmp_ge (tgt := 26) hx hb dX5_storm_18 (by decide) (fun c_5 => ?_) (fun c_5 => ?_)
      · replace hf := if_t c_5 hf
        refine lv_iload_n hx hb dX5_storm_26 rfl (lv_at hl 2 rfl) ?_
        refine lv_bipush (v := 7) hx hb dX5_storm_27 (by decide +kernel) ?_
        refine lv_icmp_gt (tgt := 38) hx hb dX5_storm_29 (by decide) (fun c_6 => ?_) (fun c_6 => ?_)
        · replace hf := if_t c_6 hf
          refine lv_bipush (v := -6) hx hb dX5_storm_38 (by decide +kernel) ?_
          refine lv_goto (tgt := 59) hx hb dX5_storm_40 (by decide) ?_
          refine lv_istore (lv' := [(5, .int (-6 : Int32)), (0, .ref (A 0)), (1, .int p1), (2, .int p2), (3, .int p3), (4, .int p4)]) hx hb dX5_storm_59 hl (by decide) rfl (fun ls hl => ?_)
          refine lv_iload hx hb dX5_storm_61 (lv_at hl 0 rfl) ?_
          refine lv_if_eq (tgt := 73) hx hb dX5_storm_63 (by decide) (fun c0 => absurd c0 (by decide)) (fun _ => ?_)
          refine lv_aload_n hx hb dX5_storm_66 rfl (lv_at hl 1 rfl) ?_
          refine lv_iload hx hb dX5_storm_67 (lv_at hl 0 rfl) ?_
          obtain ⟨a_7, ha_7, hf⟩ := bd_e hf
          refine Ct.callV (As := [.int (-6 : Int32)]) (rest := []) (st1 := [.long a_7.1]) (c_X5_lowestOf l D cI A M (-6 : Int32) a_7 ha_7) hx hb hml hown hts (cwV 1 hts gX5_storm_X5_lowestOf rfl rfl rfl hd_X5_lowestOf ⟨Nat.le_of_ble_eq_true rfl, Nat.le_of_ble_eq_true rfl⟩) (va_recv hK hP (ci := 5) (q0 := 0) rfl cM_at0) (Ln.id rfl) hA hK hP hD hS rfl hl.1 rfl rfl (Nat.le_of_ble_eq_true rfl) dX5_storm_69 (fun H locs hP hD hS => ?_)
          replace hP : va_P D vwCl (cM cI A a_7.2) H := hP
          replace hD : va_D AA (cM cI A a_7.2) := hD
          exact hend (a_7.1, a_7.2) H locs _ _ hf hP hS dX5_storm_72
        · replace hf := if_f c_6 hf
          refine lv_iload_n hx hb dX5_storm_32 rfl (lv_at hl 3 rfl) ?_
          refine lv_bipush (v := 20) hx hb dX5_storm_33 (by decide +kernel) ?_
          refine lv_icmp_le (tgt := 43) hx hb dX5_storm_35 (by decide) (fun c_8 => ?_) (fun c_8 => ?_)
          · replace hf := if_t c_8 hf
            refine lv_iload hx hb dX5_storm_43 (lv_at hl 4 rfl) ?_
            refine lv_iconst (v := 0) hx hb dX5_storm_45 (by decide) ?_
            refine lv_iconst (v := 1) hx hb dX5_storm_46 (by decide) ?_
            obtain ⟨a_9, ha_9, hf⟩ := bd_e hf
            refine Ct.callS (As := [.int p4, .int (0 : Int32), .int (1 : Int32)]) (rest := []) (st1 := [.int a_9]) (c_X5_isIn l D cI  p4 (0 : Int32) (1 : Int32) a_9 ha_9) hx hb hml hown hts (va_cwS 3 hts gX5_storm_X5_isIn rfl rfl rfl hd_X5_isIn ⟨Nat.le_of_ble_eq_true rfl, Nat.le_of_ble_eq_true rfl⟩) Ln.nil hA hK hP hD hS rfl hl.1 rfl rfl (Nat.le_of_ble_eq_true rfl) dX5_storm_47 (fun H locs hP hD hS => ?_)
            refine lv_if_ne (tgt := 58) hx hb dX5_storm_50 (by decide) (fun c_10 => ?_) (fun c_10 => ?_)
            · replace hf := if_f c_10 hf
              refine lv_iconst (v := 0) hx hb dX5_storm_58 (by decide) ?_
              refine lv_istore (lv' := [(5, .int (0 : Int32)), (0, .ref (A 0)), (1, .int p1), (2, .int p2), (3, .int p3), (4, .int p4)]) hx hb dX5_storm_59 hl (by decide) rfl (fun ls hl => ?_)
              refine lv_iload hx hb dX5_storm_61 (lv_at hl 0 rfl) ?_
              refine lv_if_eq (tgt := 73) hx hb dX5_storm_63 (by decide) (fun _ => ?_) (fun c0 => absurd c0 (by decide))
              refine lv_lconst (v := 0) hx hb dX5_storm_73 (by decide) ?_
              refine lv_lstore (lv' := [(6, .long (0 : Int64)), (5, .int (0 : Int32)), (0, .ref (A 0)), (1, .int p1), (2, .int p2), (3, .int p3), (4, .int p4)]) hx hb dX5_storm_74 hl (by decide) rfl (fun ls hl => ?_)
              refine lv_lconst (v := 1) hx hb dX5_storm_76 (by decide) ?_
              refine lv_lstore (lv' := [(8, .long (1 : Int64)), (6, .long (0 : Int64)), (5, .int (0 : Int32)), (0, .ref (A 0)), (1, .int p1), (2, .int p2), (3, .int p3), (4, .int p4)]) hx hb dX5_storm_77 hl (by decide) rfl (fun ls hl => ?_)
              refine lv_iconst (v := 0) hx hb dX5_storm_79 (by decide) ?_
              refine lv_istore (lv' := [(10, .int (0 : Int32)), (8, .long (1 : Int64)), (6, .long (0 : Int64)), (5, .int (0 : Int32)), (0, .ref (A 0)), (1, .int p1), (2, .int p2), (3, .int p3), (4, .int p4)]) hx hb dX5_storm_80 hl (by decide) rfl (fun ls hl => ?_)
              refine lp_ind (P := fun (q82 : Int64 × Int32) => ∀ (H : Heap) (locs : List Loc) (ls : Array Slot), va_P D vwCl (cM cI A M) H → va_D AA (cM cI A M) → va_S AA s.heap H locs → lv_has ls 14 [(0, .ref (A 0)), (1, .int p1), (2, .int p2), (3, .int p3), (4, .int p4), (6, .long (0 : Int64)), (8, .long q82.1), (10, .int q82.2)] → W p l e rm_X5_storm s m args below meth c H locs 0 0 Q (F0 m 82 ls [])) hf ?_ H locs ls hP hD hS (lv_sub hl [4, 5, 6, 7, 8, 2, 1, 0] rfl)
              clear hf hP hD hS hl
              intro nx82 ih82 q82 hf H locs ls hP hD hS hl
              refine lv_iload hx hb dX5_storm_82 (lv_at hl 7 rfl) ?_
              refine lv_iload_n hx hb dX5_storm_84 rfl (lv_at hl 2 rfl) ?_
              refine lv_icmp_ge (tgt := 101) hx hb dX5_storm_85 (by decide) (fun c_11 => ?_) (fun c_11 => ?_)
              · replace hf := if_t c_11 hf
                refine lv_iconst (v := 0) hx hb dX5_storm_101 (by decide) ?_
                refine lv_istore (lv' := [(10, .int (0 : Int32)), (0, .ref (A 0)), (1, .int p1), (2, .int p2), (3, .int p3), (4, .int p4), (6, .long (0 : Int64)), (8, .long q82.1)]) hx hb dX5_storm_102 hl (by decide) rfl (fun ls hl => ?_)
                refine lp_ind (P := fun (q104 : Int64 × Int32 × St) => ∀ (H : Heap) (locs : List Loc) (ls : Array Slot), va_P D vwCl (cM cI A q104.2.2) H → va_D AA (cM cI A q104.2.2) → va_S AA s.heap H locs → lv_has ls 14 [(0, .ref (A 0)), (1, .int p1), (2, .int p2), (3, .int p3), (4, .int p4), (6, .long q104.1), (8, .long q82.1), (10, .int q104.2.1)] → W p l e rm_X5_storm s m args below meth c H locs 0 0 Q (F0 m 104 ls [])) hf ?_ H locs ls hP hD hS (lv_sub hl [1, 2, 3, 4, 5, 6, 7, 0] rfl)
                clear hf hP hD hS hl
                intro nx104 ih104 q104 hf H locs ls hP hD hS hl
                refine lv_iload hx hb dX5_storm_104 (lv_at hl 7 rfl) ?_
                refine lv_iconst (v := 1) hx hb dX5_storm_106 (by decide) ?_
                refine lv_iload_n hx hb dX5_storm_107 rfl (lv_at hl 2 rfl) ?_
                refine lv_ishl hx hb dX5_storm_108 ?_
                refine lv_icmp_ge (tgt := 205) hx hb dX5_storm_109 (by decide) (fun c_12 => ?_) (fun c_12 => ?_)
                · replace hf := if_t c_12 hf
                  refine lv_lload hx hb dX5_storm_205 (lv_at hl 5 rfl) ?_
                  refine lv_lload hx hb dX5_storm_207 (lv_at hl 6 rfl) ?_
                  refine lv_iload hx hb dX5_storm_209 (lv_at hl 4 rfl) ?_
                  obtain ⟨a_13, ha_13, hf⟩ := bd_e hf
                  refine Ct.callS (As := [.long q104.1, .long q82.1, .int p4]) (rest := []) (st1 := [.long a_13]) (c_X5_partOf l D cI  q104.1 q82.1 p4 a_13 ha_13) hx hb hml hown hts (va_cwS 3 hts gX5_storm_X5_partOf rfl rfl rfl hd_X5_partOf ⟨Nat.le_of_ble_eq_true rfl, Nat.le_of_ble_eq_true rfl⟩) Ln.nil hA hK hP hD hS rfl hl.1 rfl rfl (Nat.le_of_ble_eq_true rfl) dX5_storm_211 (fun H locs hP hD hS => ?_)
                  exact hend (a_13, q104.2.2) H locs _ _ hf hP hS dX5_storm_214
                · replace hf := if_f c_12 hf
                  refine lv_aload_n hx hb dX5_storm_112 rfl (lv_at hl 0 rfl) ?_
                  obtain ⟨a_14, ha_14, hf⟩ := bd_e hf
                  refine Ct.callV (As := []) (rest := []) (st1 := []) (c_X5_thinks l D cI A q104.2.2 a_14 ha_14) hx hb hml hown hts (cwV 0 hts gX5_storm_X5_thinks rfl rfl rfl hd_X5_thinks ⟨Nat.le_of_ble_eq_true rfl, Nat.le_of_ble_eq_true rfl⟩) (va_recv hK hP (ci := 5) (q0 := 0) rfl cM_at0) (Ln.id rfl) hA hK hP hD hS rfl hl.1 rfl rfl (Nat.le_of_ble_eq_true rfl) dX5_storm_113 (fun H locs hP hD hS => ?_)
                  replace hP : va_P D vwCl (cM cI A a_14) H := hP
                  replace hD : va_D AA (cM cI A a_14) := hD
                  refine lv_lconst (v := 1) hx hb dX5_storm_116 (by decide) ?_
                  refine lv_lstore (lv' := [(11, .long (1 : Int64)), (0, .ref (A 0)), (1, .int p1), (2, .int p2), (3, .int p3), (4, .int p4), (6, .long q104.1), (8, .long q82.1), (10, .int q104.2.1)]) hx hb dX5_storm_117 hl (by decide) rfl (fun ls hl => ?_)
                  refine lv_iconst (v := 0) hx hb dX5_storm_119 (by decide) ?_
                  refine lv_istore (lv' := [(13, .int (0 : Int32)), (11, .long (1 : Int64)), (0, .ref (A 0)), (1, .int p1), (2, .int p2), (3, .int p3), (4, .int p4), (6, .long q104.1), (8, .long q82.1), (10, .int q104.2.1)]) hx hb dX5_storm_120 hl (by decide) rfl (fun ls hl => ?_)
                  refine lp_ind (P := fun (q122 : Int64 × Int32 × St) => ∀ (H : Heap) (locs : List Loc) (ls : Array Slot), va_P D vwCl (cM cI A q122.2.2) H → va_D AA (cM cI A q122.2.2) → va_S AA s.heap H locs → lv_has ls 14 [(0, .ref (A 0)), (1, .int p1), (2, .int p2), (3, .int p3), (4, .int p4), (6, .long q104.1), (8, .long q82.1), (10, .int q104.2.1), (11, .long q122.1), (13, .int q122.2.1)] → W p l e rm_X5_storm s m args below meth c H locs 0 0 Q (F0 m 122 ls [])) hf ?_ H locs ls hP hD hS (lv_sub hl [2, 3, 4, 5, 6, 7, 8, 9, 1, 0] rfl)
                  clear hf hP hD hS hl
                  intro nx122 ih122 q122 hf H locs ls hP hD hS hl
                  refine lv_iload hx hb dX5_storm_122 (lv_at hl 9 rfl) ?_
                  refine lv_iload_n hx hb dX5_storm_124 rfl (lv_at hl 2 rfl) ?_
                  refine lv_icmp_ge (tgt := 175) hx hb dX5_storm_125 (by decide) (fun c_15 => ?_) (fun c_15 => ?_)
                  · replace hf := if_t c_15 hf
                    refine lv_lload hx hb dX5_storm_175 (lv_at hl 5 rfl) ?_
                    refine lv_aload_n hx hb dX5_storm_177 rfl (lv_at hl 0 rfl) ?_
                    refine va_get (D := D) (ci := 5) (v := .ref (A 4)) (C := RX5) (T := TX5) (N := 27) hx hb hts hw5 hown hK hP 0 cM_at0 rfl 3 (by decide) k19 (fun _ h9 => h9) rfl dX5_storm_178 ?_
                    refine lv_iload_n hx hb dX5_storm_181 rfl (lv_at hl 1 rfl) ?_
                    obtain ⟨c_16, hf⟩ := gi_e hf
                    refine va_iald hx hb hK hP 4 0 cM_at4 rfl c_16 dX5_storm_182 ?_
                    refine lv_if_le (tgt := 191) hx hb dX5_storm_183 (by decide) (fun c_17 => ?_) (fun c_17 => ?_)
                    · replace hf := if_t c_17 hf
                      refine lv_lconst (v := 0) hx hb dX5_storm_191 (by decide) ?_
                      refine lv_ladd hx hb dX5_storm_192 ?_
                      refine lv_topl (fun v_18 ev_18 => ?_)
                      replace hf := nm_at ev_18 hf
                      refine lv_lstore (lv' := [(6, .long v_18), (0, .ref (A 0)), (1, .int p1), (2, .int p2), (3, .int p3), (4, .int p4), (8, .long q82.1), (10, .int q104.2.1), (11, .long q122.1), (13, .int q122.2.1)]) hx hb dX5_storm_193 hl (by decide) rfl (fun ls hl => ?_)
                      refine lv_aload_n hx hb dX5_storm_195 rfl (lv_at hl 1 rfl) ?_
                      obtain ⟨a_19, ha_19, hf⟩ := bd_e hf
                      refine Ct.callV (As := []) (rest := []) (st1 := []) (c_X5_forgets l D cI A q122.2.2 a_19 ha_19) hx hb hml hown hts (cwV 0 hts gX5_storm_X5_forgets rfl rfl rfl hd_X5_forgets ⟨Nat.le_of_ble_eq_true rfl, Nat.le_of_ble_eq_true rfl⟩) (va_recv hK hP (ci := 5) (q0 := 0) rfl cM_at0) (Ln.id rfl) hA hK hP hD hS rfl hl.1 rfl rfl (Nat.le_of_ble_eq_true rfl) dX5_storm_196 (fun H locs hP hD hS => ?_)
                      replace hP : va_P D vwCl (cM cI A a_19) H := hP
                      replace hD : va_D AA (cM cI A a_19) := hD
                      obtain ⟨v_20, ev_20, hf⟩ := nq_e hf
                      refine lv_iinc (v := v_20) (lv' := [(10, .int v_20), (6, .long v_18), (0, .ref (A 0)), (1, .int p1), (2, .int p2), (3, .int p3), (4, .int p4), (8, .long q82.1), (11, .long q122.1), (13, .int q122.2.1)]) hx hb dX5_storm_199 hl (k := 7) rfl (by rw [ev_20]; rfl) (by decide) rfl (fun ls hl => ?_)
                      refine lv_goto (tgt := 104) hx hb dX5_storm_202 (by decide) ?_
                      exact ih104 (v_18, v_20, a_19) hf H locs ls hP hD hS (lv_sub hl [2, 3, 4, 5, 6, 1, 7, 0] rfl)
                    · replace hf := if_f c_17 hf
                      refine lv_lload hx hb dX5_storm_186 (lv_at hl 8 rfl) ?_
                      refine lv_goto (tgt := 192) hx hb dX5_storm_188 (by decide) ?_
                      refine lv_ladd hx hb dX5_storm_192 ?_
                      refine lv_topl (fun v_21 ev_21 => ?_)
                      replace hf := nm_at ev_21 hf
                      refine lv_lstore (lv' := [(6, .long v_21), (0, .ref (A 0)), (1, .int p1), (2, .int p2), (3, .int p3), (4, .int p4), (8, .long q82.1), (10, .int q104.2.1), (11, .long q122.1), (13, .int q122.2.1)]) hx hb dX5_storm_193 hl (by decide) rfl (fun ls hl => ?_)
                      refine lv_aload_n hx hb dX5_storm_195 rfl (lv_at hl 1 rfl) ?_
                      obtain ⟨a_22, ha_22, hf⟩ := bd_e hf
                      refine Ct.callV (As := []) (rest := []) (st1 := []) (c_X5_forgets l D cI A q122.2.2 a_22 ha_22) hx hb hml hown hts (cwV 0 hts gX5_storm_X5_forgets rfl rfl rfl hd_X5_forgets ⟨Nat.le_of_ble_eq_true rfl, Nat.le_of_ble_eq_true rfl⟩) (va_recv hK hP (ci := 5) (q0 := 0) rfl cM_at0) (Ln.id rfl) hA hK hP hD hS rfl hl.1 rfl rfl (Nat.le_of_ble_eq_true rfl) dX5_storm_196 (fun H locs hP hD hS => ?_)
                      replace hP : va_P D vwCl (cM cI A a_22) H := hP
                      replace hD : va_D AA (cM cI A a_22) := hD
                      obtain ⟨v_23, ev_23, hf⟩ := nq_e hf
                      refine lv_iinc (v := v_23) (lv' := [(10, .int v_23), (6, .long v_21), (0, .ref (A 0)), (1, .int p1), (2, .int p2), (3, .int p3), (4, .int p4), (8, .long q82.1), (11, .long q122.1), (13, .int q122.2.1)]) hx hb dX5_storm_199 hl (k := 7) rfl (by rw [ev_23]; rfl) (by decide) rfl (fun ls hl => ?_)
                      refine lv_goto (tgt := 104) hx hb dX5_storm_202 (by decide) ?_
                      exact ih104 (v_21, v_23, a_22) hf H locs ls hP hD hS (lv_sub hl [2, 3, 4, 5, 6, 1, 7, 0] rfl)
                  · replace hf := if_f c_15 hf
                    refine lv_lload hx hb dX5_storm_128 (lv_at hl 8 rfl) ?_
                    refine lv_iload hx hb dX5_storm_130 (lv_at hl 7 rfl) ?_
                    refine lv_iload hx hb dX5_storm_132 (lv_at hl 9 rfl) ?_
                    obtain ⟨a_24, ha_24, hf⟩ := bd_e hf
                    refine Ct.callS (As := [.int q104.2.1, .int q122.2.1]) (rest := [.long q122.1]) (st1 := [.int a_24, .long q122.1]) (c_X5_has l D cI  q104.2.1 q122.2.1 a_24 ha_24) hx hb hml hown hts (va_cwS 2 hts gX5_storm_X5_has rfl rfl rfl hd_X5_has ⟨Nat.le_of_ble_eq_true rfl, Nat.le_of_ble_eq_true rfl⟩) Ln.nil hA hK hP hD hS rfl hl.1 rfl rfl (Nat.le_of_ble_eq_true rfl) dX5_storm_134 (fun H locs hP hD hS => ?_)
                    refine lv_if_eq (tgt := 144) hx hb dX5_storm_137 (by decide) (fun c_25 => ?_) (fun c_25 => ?_)
                    · replace hf := if_t c_25 hf
                      refine lv_iload_n hx hb dX5_storm_144 rfl (lv_at hl 3 rfl) ?_
                      refine lv_iconst (v := 1) hx hb dX5_storm_145 (by decide) ?_
                      refine lv_isub hx hb dX5_storm_146 ?_
                      refine lv_i2l (v := ((p3 - (1 : Int32))).toInt64) hx hb dX5_storm_147 rfl ?_
                      refine lv_lmul hx hb dX5_storm_148 ?_
                      refine lv_topl (fun v_26 ev_26 => ?_)
                      replace hf := nm_at ev_26 hf
                      refine lv_lstore (lv' := [(11, .long v_26), (0, .ref (A 0)), (1, .int p1), (2, .int p2), (3, .int p3), (4, .int p4), (6, .long q104.1), (8, .long q82.1), (10, .int q104.2.1), (13, .int q122.2.1)]) hx hb dX5_storm_149 hl (by decide) rfl (fun ls hl => ?_)
                      refine lv_iload hx hb dX5_storm_151 (lv_at hl 8 rfl) ?_
                      refine lv_iload hx hb dX5_storm_153 (lv_at hl 9 rfl) ?_
                      obtain ⟨a_27, ha_27, hf⟩ := bd_e hf
                      refine Ct.callS (As := [.int q104.2.1, .int q122.2.1]) (rest := []) (st1 := [.int a_27]) (c_X5_has l D cI  q104.2.1 q122.2.1 a_27 ha_27) hx hb hml hown hts (va_cwS 2 hts gX5_storm_X5_has rfl rfl rfl hd_X5_has ⟨Nat.le_of_ble_eq_true rfl, Nat.le_of_ble_eq_true rfl⟩) Ln.nil hA hK hP hD hS rfl hl.1 rfl rfl (Nat.le_of_ble_eq_true rfl) dX5_storm_155 (fun H locs hP hD hS => ?_)
                      refine lv_if_eq (tgt := 165) hx hb dX5_storm_158 (by decide) (fun c_28 => ?_) (fun c_28 => ?_)
                      · replace hf := if_t c_28 hf
                        refine lv_aload_n hx hb dX5_storm_165 rfl (lv_at hl 1 rfl) ?_
                        obtain ⟨a_29, ha_29, hf⟩ := bd_e hf
                        refine Ct.callV (As := []) (rest := []) (st1 := []) (c_X5_goesTide l D cI A q122.2.2 a_29 ha_29) hx hb hml hown hts (cwV 0 hts gX5_storm_X5_goesTide rfl rfl rfl hd_X5_goesTide ⟨Nat.le_of_ble_eq_true rfl, Nat.le_of_ble_eq_true rfl⟩) (va_recv hK hP (ci := 5) (q0 := 0) rfl cM_at0) (Ln.id rfl) hA hK hP hD hS rfl hl.1 rfl rfl (Nat.le_of_ble_eq_true rfl) dX5_storm_166 (fun H locs hP hD hS => ?_)
                        replace hP : va_P D vwCl (cM cI A a_29) H := hP
                        replace hD : va_D AA (cM cI A a_29) := hD
                        obtain ⟨v_30, ev_30, hf⟩ := nq_e hf
                        refine lv_iinc (v := v_30) (lv' := [(13, .int v_30), (11, .long v_26), (0, .ref (A 0)), (1, .int p1), (2, .int p2), (3, .int p3), (4, .int p4), (6, .long q104.1), (8, .long q82.1), (10, .int q104.2.1)]) hx hb dX5_storm_169 hl (k := 9) rfl (by rw [ev_30]; rfl) (by decide) rfl (fun ls hl => ?_)
                        refine lv_goto (tgt := 122) hx hb dX5_storm_172 (by decide) ?_
                        exact ih122 (v_26, v_30, a_29) hf H locs ls hP hD hS (lv_sub hl [2, 3, 4, 5, 6, 7, 8, 9, 1, 0] rfl)
                      · replace hf := if_f c_28 hf
                        refine lv_aload_n hx hb dX5_storm_161 rfl (lv_at hl 1 rfl) ?_
                        obtain ⟨a_31, ha_31, hf⟩ := bd_e hf
                        refine Ct.callV (As := []) (rest := []) (st1 := []) (c_X5_storms l D cI A q122.2.2 a_31 ha_31) hx hb hml hown hts (cwV 0 hts gX5_storm_X5_storms rfl rfl rfl hd_X5_storms ⟨Nat.le_of_ble_eq_true rfl, Nat.le_of_ble_eq_true rfl⟩) (va_recv hK hP (ci := 5) (q0 := 0) rfl cM_at0) (Ln.id rfl) hA hK hP hD hS rfl hl.1 rfl rfl (Nat.le_of_ble_eq_true rfl) dX5_storm_162 (fun H locs hP hD hS => ?_)
                        replace hP : va_P D vwCl (cM cI A a_31) H := hP
                        replace hD : va_D AA (cM cI A a_31) := hD
                        refine lv_aload_n hx hb dX5_storm_165 rfl (lv_at hl 1 rfl) ?_
                        obtain ⟨a_32, ha_32, hf⟩ := bd_e hf
                        refine Ct.callV (As := []) (rest := []) (st1 := []) (c_X5_goesTide l D cI A a_31 a_32 ha_32) hx hb hml hown hts (cwV 0 hts gX5_storm_X5_goesTide rfl rfl rfl hd_X5_goesTide ⟨Nat.le_of_ble_eq_true rfl, Nat.le_of_ble_eq_true rfl⟩) (va_recv hK hP (ci := 5) (q0 := 0) rfl cM_at0) (Ln.id rfl) hA hK hP hD hS rfl hl.1 rfl rfl (Nat.le_of_ble_eq_true rfl) dX5_storm_166 (fun H locs hP hD hS => ?_)
                        replace hP : va_P D vwCl (cM cI A a_32) H := hP
                        replace hD : va_D AA (cM cI A a_32) := hD
                        obtain ⟨v_33, ev_33, hf⟩ := nq_e hf
                        refine lv_iinc (v := v_33) (lv' := [(13, .int v_33), (11, .long v_26), (0, .ref (A 0)), (1, .int p1), (2, .int p2), (3, .int p3), (4, .int p4), (6, .long q104.1), (8, .long q82.1), (10, .int q104.2.1)]) hx hb dX5_storm_169 hl (k := 9) rfl (by rw [ev_33]; rfl) (by decide) rfl (fun ls hl => ?_)
                        refine lv_goto (tgt := 122) hx hb dX5_storm_172 (by decide) ?_
                        exact ih122 (v_26, v_33, a_32) hf H locs ls hP hD hS (lv_sub hl [2, 3, 4, 5, 6, 7, 8, 9, 1, 0] rfl)
                    · replace hf := if_f c_25 hf
                      refine lv_lconst (v := 1) hx hb dX5_storm_140 (by decide) ?_
                      refine lv_goto (tgt := 148) hx hb dX5_storm_141 (by decide) ?_
                      refine lv_lmul hx hb dX5_storm_148 ?_
                      refine lv_topl (fun v_34 ev_34 => ?_)
                      replace hf := nm_at ev_34 hf
                      refine lv_lstore (lv' := [(11, .long v_34), (0, .ref (A 0)), (1, .int p1), (2, .int p2), (3, .int p3), (4, .int p4), (6, .long q104.1), (8, .long q82.1), (10, .int q104.2.1), (13, .int q122.2.1)]) hx hb dX5_storm_149 hl (by decide) rfl (fun ls hl => ?_)
                      refine lv_iload hx hb dX5_storm_151 (lv_at hl 8 rfl) ?_
                      refine lv_iload hx hb dX5_storm_153 (lv_at hl 9 rfl) ?_
                      obtain ⟨a_35, ha_35, hf⟩ := bd_e hf
                      refine Ct.callS (As := [.int q104.2.1, .int q122.2.1]) (rest := []) (st1 := [.int a_35]) (c_X5_has l D cI  q104.2.1 q122.2.1 a_35 ha_35) hx hb hml hown hts (va_cwS 2 hts gX5_storm_X5_has rfl rfl rfl hd_X5_has ⟨Nat.le_of_ble_eq_true rfl, Nat.le_of_ble_eq_true rfl⟩) Ln.nil hA hK hP hD hS rfl hl.1 rfl rfl (Nat.le_of_ble_eq_true rfl) dX5_storm_155 (fun H locs hP hD hS => ?_)
                      refine lv_if_eq (tgt := 165) hx hb dX5_storm_158 (by decide) (fun c_36 => ?_) (fun c_36 => ?_)
                      · replace hf := if_t c_36 hf
                        refine lv_aload_n hx hb dX5_storm_165 rfl (lv_at hl 1 rfl) ?_
                        obtain ⟨a_37, ha_37, hf⟩ := bd_e hf
                        refine Ct.callV (As := []) (rest := []) (st1 := []) (c_X5_goesTide l D cI A q122.2.2 a_37 ha_37) hx hb hml hown hts (cwV 0 hts gX5_storm_X5_goesTide rfl rfl rfl hd_X5_goesTide ⟨Nat.le_of_ble_eq_true rfl, Nat.le_of_ble_eq_true rfl⟩) (va_recv hK hP (ci := 5) (q0 := 0) rfl cM_at0) (Ln.id rfl) hA hK hP hD hS rfl hl.1 rfl rfl (Nat.le_of_ble_eq_true rfl) dX5_storm_166 (fun H locs hP hD hS => ?_)
                        replace hP : va_P D vwCl (cM cI A a_37) H := hP
                        replace hD : va_D AA (cM cI A a_37) := hD
                        obtain ⟨v_38, ev_38, hf⟩ := nq_e hf
                        refine lv_iinc (v := v_38) (lv' := [(13, .int v_38), (11, .long v_34), (0, .ref (A 0)), (1, .int p1), (2, .int p2), (3, .int p3), (4, .int p4), (6, .long q104.1), (8, .long q82.1), (10, .int q104.2.1)]) hx hb dX5_storm_169 hl (k := 9) rfl (by rw [ev_38]; rfl) (by decide) rfl (fun ls hl => ?_)
                        refine lv_goto (tgt := 122) hx hb dX5_storm_172 (by decide) ?_
                        exact ih122 (v_34, v_38, a_37) hf H locs ls hP hD hS (lv_sub hl [2, 3, 4, 5, 6, 7, 8, 9, 1, 0] rfl)
                      · replace hf := if_f c_36 hf
                        refine lv_aload_n hx hb dX5_storm_161 rfl (lv_at hl 1 rfl) ?_
                        obtain ⟨a_39, ha_39, hf⟩ := bd_e hf
                        refine Ct.callV (As := []) (rest := []) (st1 := []) (c_X5_storms l D cI A q122.2.2 a_39 ha_39) hx hb hml hown hts (cwV 0 hts gX5_storm_X5_storms rfl rfl rfl hd_X5_storms ⟨Nat.le_of_ble_eq_true rfl, Nat.le_of_ble_eq_true rfl⟩) (va_recv hK hP (ci := 5) (q0 := 0) rfl cM_at0) (Ln.id rfl) hA hK hP hD hS rfl hl.1 rfl rfl (Nat.le_of_ble_eq_true rfl) dX5_storm_162 (fun H locs hP hD hS => ?_)
                        replace hP : va_P D vwCl (cM cI A a_39) H := hP
                        replace hD : va_D AA (cM cI A a_39) := hD
                        refine lv_aload_n hx hb dX5_storm_165 rfl (lv_at hl 1 rfl) ?_
                        obtain ⟨a_40, ha_40, hf⟩ := bd_e hf
                        refine Ct.callV (As := []) (rest := []) (st1 := []) (c_X5_goesTide l D cI A a_39 a_40 ha_40) hx hb hml hown hts (cwV 0 hts gX5_storm_X5_goesTide rfl rfl rfl hd_X5_goesTide ⟨Nat.le_of_ble_eq_true rfl, Nat.le_of_ble_eq_true rfl⟩) (va_recv hK hP (ci := 5) (q0 := 0) rfl cM_at0) (Ln.id rfl) hA hK hP hD hS rfl hl.1 rfl rfl (Nat.le_of_ble_eq_true rfl) dX5_storm_166 (fun H locs hP hD hS => ?_)
                        replace hP : va_P D vwCl (cM cI A a_40) H := hP
                        replace hD : va_D AA (cM cI A a_40) := hD
                        obtain ⟨v_41, ev_41, hf⟩ := nq_e hf
                        refine lv_iinc (v := v_41) (lv' := [(13, .int v_41), (11, .long v_34), (0, .ref (A 0)), (1, .int p1), (2, .int p2), (3, .int p3), (4, .int p4), (6, .long q104.1), (8, .long q82.1), (10, .int q104.2.1)]) hx hb dX5_storm_169 hl (k := 9) rfl (by rw [ev_41]; rfl) (by decide) rfl (fun ls hl => ?_)
                        refine lv_goto (tgt := 122) hx hb dX5_storm_172 (by decide) ?_
                        exact ih122 (v_34, v_41, a_40) hf H locs ls hP hD hS (lv_sub hl [2, 3, 4, 5, 6, 7, 8, 9, 1, 0] rfl)
              · replace hf := if_f c_11 hf
                refine lv_lload hx hb dX5_storm_88 (lv_at hl 6 rfl) ?_
                refine lv_iload_n hx hb dX5_storm_90 rfl (lv_at hl 3 rfl) ?_
                refine lv_i2l (v := (p3).toInt64) hx hb dX5_storm_91 rfl ?_
                refine lv_lmul hx hb dX5_storm_92 ?_
                refine lv_topl (fun v_42 ev_42 => ?_)
                replace hf := nm_at ev_42 hf
                refine lv_lstore (lv' := [(8, .long v_42), (0, .ref (A 0)), (1, .int p1), (2, .int p2), (3, .int p3), (4, .int p4), (6, .long (0 : Int64)), (10, .int q82.2)]) hx hb dX5_storm_93 hl (by decide) rfl (fun ls hl => ?_)
                obtain ⟨v_43, ev_43, hf⟩ := nq_e hf
                refine lv_iinc (v := v_43) (lv' := [(10, .int v_43), (8, .long v_42), (0, .ref (A 0)), (1, .int p1), (2, .int p2), (3, .int p3), (4, .int p4), (6, .long (0 : Int64))]) hx hb dX5_storm_95 hl (k := 7) rfl (by rw [ev_43]; rfl) (by decide) rfl (fun ls hl => ?_)
                refine lv_goto (tgt := 82) hx hb dX5_storm_98 (by decide) ?_
                exact ih82 (v_42, v_43) hf H locs ls hP hD hS (lv_sub hl [2, 3, 4, 5, 6, 7, 1, 0] rfl)
            · replace hf := if_t c_10 hf
              refine lv_bipush (v := -2) hx hb dX5_storm_53 (by decide +kernel) ?_
              refine lv_goto (tgt := 59) hx hb dX5_storm_55 (by decide) ?_
              refine lv_istore (lv' := [(5, .int (-2 : Int32)), (0, .ref (A 0)), (1, .int p1), (2, .int p2), (3, .int p3), (4, .int p4)]) hx hb dX5_storm_59 hl (by decide) rfl (fun ls hl => ?_)
              refine lv_iload hx hb dX5_storm_61 (lv_at hl 0 rfl) ?_
              refine lv_if_eq (tgt := 73) hx hb dX5_storm_63 (by decide) (fun c0 => absurd c0 (by decide)) (fun _ => ?_)
              refine lv_aload_n hx hb dX5_storm_66 rfl (lv_at hl 1 rfl) ?_
              refine lv_iload hx hb dX5_storm_67 (lv_at hl 0 rfl) ?_
              obtain ⟨a_44, ha_44, hf⟩ := bd_e hf
              refine Ct.callV (As := [.int (-2 : Int32)]) (rest := []) (st1 := [.long a_44.1]) (c_X5_lowestOf l D cI A M (-2 : Int32) a_44 ha_44) hx hb hml hown hts (cwV 1 hts gX5_storm_X5_lowestOf rfl rfl rfl hd_X5_lowestOf ⟨Nat.le_of_ble_eq_true rfl, Nat.le_of_ble_eq_true rfl⟩) (va_recv hK hP (ci := 5) (q0 := 0) rfl cM_at0) (Ln.id rfl) hA hK hP hD hS rfl hl.1 rfl rfl (Nat.le_of_ble_eq_true rfl) dX5_storm_69 (fun H locs hP hD hS => ?_)
              replace hP : va_P D vwCl (cM cI A a_44.2) H := hP
              replace hD : va_D AA (cM cI A a_44.2) := hD
              exact hend (a_44.1, a_44.2) H locs _ _ hf hP hS dX5_storm_72
          · replace hf := if_f c_8 hf
            refine lv_bipush (v := -6) hx hb dX5_storm_38 (by decide +kernel) ?_
            refine lv_goto (tgt := 59) hx hb dX5_storm_40 (by decide) ?_
            refine lv_istore (lv' := [(5, .int (-6 : Int32)), (0, .ref (A 0)), (1, .int p1), (2, .int p2), (3, .int p3), (4, .int p4)]) hx hb dX5_storm_59 hl (by decide) rfl (fun ls hl => ?_)
            refine lv_iload hx hb dX5_storm_61 (lv_at hl 0 rfl) ?_
            refine lv_if_eq (tgt := 73) hx hb dX5_storm_63 (by decide) (fun c0 => absurd c0 (by decide)) (fun _ => ?_)
            refine lv_aload_n hx hb dX5_storm_66 rfl (lv_at hl 1 rfl) ?_
            refine lv_iload hx hb dX5_storm_67 (lv_at hl 0 rfl) ?_
            obtain ⟨a_45, ha_45, hf⟩ := bd_e hf
            refine Ct.callV (As := [.int (-6 : Int32)]) (rest := []) (st1 := [.long a_45.1]) (c_X5_lowestOf l D cI A M (-6 : Int32) a_45 ha_45) hx hb hml hown hts (cwV 1 hts gX5_storm_X5_lowestOf rfl rfl rfl hd_X5_lowestOf ⟨Nat.le_of_ble_eq_true rfl, Nat.le_of_ble_eq_true rfl⟩) (va_recv hK hP (ci := 5) (q0 := 0) rfl cM_at0) (Ln.id rfl) hA hK hP hD hS rfl hl.1 rfl rfl (Nat.le_of_ble_eq_true rfl) dX5_storm_69 (fun H locs hP hD hS => ?_)
            replace hP : va_P D vwCl (cM cI A a_45.2) H := hP
            replace hD : va_D AA (cM cI A a_45.2) := hD
            exact hend (a_45.1, a_45.2) H locs _ _ hf hP hS dX5_storm_72
      · replace hf := if_f c_5 hf
        refine lv_bipush (v := -4) hx hb dX5_storm_21 (by decide +kernel) ?_
        refine lv_goto (tgt := 59) hx hb dX5_storm_23 (by decide) ?_
        refine lv_istore (lv' := [(5, .int (-4 : Int32)), (0, .ref (A 0)), (1, .int p1), (2, .int p2), (3, .int p3), (4, .int p4)]) hx hb dX5_storm_59 hl (by decide) rfl (fun ls hl => ?_)
        refine lv_iload hx hb dX5_storm_61 (lv_at hl 0 rfl) ?_
        refine lv_if_eq (tgt := 73) hx hb dX5_storm_63 (by decide) (fun c0 => absurd c0 (by decide)) (fun _ => ?_)
        refine lv_aload_n hx hb dX5_storm_66 rfl (lv_at hl 1 rfl) ?_
        refine lv_iload hx hb dX5_storm_67 (lv_at hl 0 rfl) ?_
        obtain ⟨a_46, ha_46, hf⟩ := bd_e hf
        refine Ct.callV (As := [.int (-4 : Int32)]) (rest := []) (st1 := [.long a_46.1]) (c_X5_lowestOf l D cI A M (-4 : Int32) a_46 ha_46) hx hb hml hown hts (cwV 1 hts gX5_storm_X5_lowestOf rfl rfl rfl hd_X5_lowestOf ⟨Nat.le_of_ble_eq_true rfl, Nat.le_of_ble_eq_true rfl⟩) (va_recv hK hP (ci := 5) (q0 := 0) rfl cM_at0) (Ln.id rfl) hA hK hP hD hS rfl hl.1 rfl rfl (Nat.le_of_ble_eq_true rfl) dX5_storm_69 (fun H locs hP hD hS => ?_)
        replace hP : va_P D vwCl (cM cI A a_46.2) H := hP
        replace hD : va_D AA (cM cI A a_46.2) := hD
        exact hend (a_46.1, a_46.2) H locs _ _ hf hP hS dX5_storm_72
  · replace hf := if_t c_2 hf
    refine lv_iconst (v := -1) hx hb dX5_storm_8 (by decide) ?_
    refine lv_goto (tgt := 59) hx hb dX5_storm_9 (by decide) ?_
    refine lv_istore (lv' := [(5, .int (-1 : Int32)), (0, .ref (A 0)), (1, .int p1), (2, .int p2), (3, .int p3), (4, .int p4)]) hx hb dX5_storm_59 hl (by decide) rfl (fun ls hl => ?_)
    refine lv_iload hx hb dX5_storm_61 (lv_at hl 0 rfl) ?_
    refine lv_if_eq (tgt := 73) hx hb dX5_storm_63 (by decide) (fun c0 => absurd c0 (by decide)) (fun _ => ?_)
    refine lv_aload_n hx hb dX5_storm_66 rfl (lv_at hl 1 rfl) ?_
    refine lv_iload hx hb dX5_storm_67 (lv_at hl 0 rfl) ?_
    obtain ⟨a_47, ha_47, hf⟩ := bd_e hf
    refine Ct.callV (As := [.int (-1 : Int32)]) (rest := []) (st1 := [.long a_47.1]) (c_X5_lowestOf l D cI A M (-1 : Int32) a_47 ha_47) hx hb hml hown hts (cwV 1 hts gX5_storm_X5_lowestOf rfl rfl rfl hd_X5_lowestOf ⟨Nat.le_of_ble_eq_true rfl, Nat.le_of_ble_eq_true rfl⟩) (va_recv hK hP (ci := 5) (q0 := 0) rfl cM_at0) (Ln.id rfl) hA hK hP hD hS rfl hl.1 rfl rfl (Nat.le_of_ble_eq_true rfl) dX5_storm_69 (fun H locs hP hD hS => ?_)
    replace hP : va_P D vwCl (cM cI A a_47.2) H := hP
    replace hD : va_D AA (cM cI A a_47.2) := hD
    exact hend (a_47.1, a_47.2) H locs _ _ hf hP hS dX5_storm_72

def rm_X5_mean : Room := { frames := 2, cells := 0, slots := 0, locals := 53 }
theorem hd_X5_mean : yX5_mean.cls = RX5 ∧ yX5_mean.cls ≠ "java/lang/invoke/MethodHandle" ∧ yX5_mean.cls ≠ "java/lang/invoke/VarHandle" ∧ (parseMethodDescriptor yX5_mean.desc).map (fun d => d.parameters.length) = some 1 := by decide +kernel
set_option maxRecDepth 100000 in
set_option maxHeartbeats 4000000 in
theorem c_X5_mean (l : Launch) (D : va_G) (cI : ClassId) (A : Nat → Nat) (M : St) (p1 : Int32) (r : Int64 × St) (hf : f_X5_mean M p1 = some r) : Ct l yX5_mean wsX5_mean rm_X5_mean D cI (cM cI A M) (cM cI A r.2) [.ref (A 0), .int p1] (some (.long r.1)) := by
  unfold f_X5_mean at hf
  refine Ct.ofL (cc := cX5_mean) (maxL := 2) (by decide +kernel) rfl (Nat.le_of_ble_eq_true rfl) ?_
  intro p e s m args below meth c AA Q H locs ls hx hb hml hown hts hA hK hP hD hS hl hend0
  have hend : ∀ (r1 : Int64 × St) (H : Heap) (locs : List Loc) (pc : Nat) (ls : Array Slot), some r1 = some r → va_P D vwCl (cM cI A r1.2) H → va_S AA s.heap H locs → decode cX5_mean pc = .ok (.lreturn, 1) → W p l e rm_X5_mean s m args below meth c H locs 0 0 Q (F0 m pc ls [.long r1.1]) := by
    intro r1 H locs pc ls e1 hP hS hd; cases e1; exact hend0 H locs pc ls hP hS hd
  clear hend0
  have hw5 : ∀ w ∈ wsX50, w ∈ wsX5_mean := by decide +kernel
  have k65 := hts (.fieldLink RX5 65 "AnchorsForConfessionModel" "men" "I") (by decide +kernel)
  replace hl : lv_has ls 2 [(0, .ref (A 0)), (1, .int p1)] := hl
  refine lv_iload_n hx hb dX5_mean_0 rfl (lv_at hl 1 rfl) ?_
  refine lv_iconst (v := 0) hx hb dX5_mean_1 (by decide) ?_
  refine lv_iconst (v := 1) hx hb dX5_mean_2 (by decide) ?_
  obtain ⟨a_1, ha_1, hf⟩ := bd_e hf
  refine Ct.callS (As := [.int p1, .int (0 : Int32), .int (1 : Int32)]) (rest := []) (st1 := [.int a_1]) (c_X5_isIn l D cI  p1 (0 : Int32) (1 : Int32) a_1 ha_1) hx hb hml hown hts (va_cwS 3 hts gX5_mean_X5_isIn rfl rfl rfl hd_X5_isIn ⟨Nat.le_of_ble_eq_true rfl, Nat.le_of_ble_eq_true rfl⟩) Ln.nil hA hK hP hD hS rfl hl.1 rfl rfl (Nat.le_of_ble_eq_true rfl) dX5_mean_3 (fun H locs hP hD hS => ?_)
  refine lv_if_ne (tgt := 16) hx hb dX5_mean_6 (by decide) (fun c_2 => ?_) (fun c_2 => ?_)
  · replace hf := if_f c_2 hf
    refine lv_aload_n hx hb dX5_mean_16 rfl (lv_at hl 0 rfl) ?_
    refine va_get (D := D) (ci := 5) (v := .int (M 16 1)) (C := RX5) (T := TX5) (N := 27) hx hb hts hw5 hown hK hP 0 cM_at0 rfl 9 (by decide) k65 (fun _ h9 => h9) rfl dX5_mean_17 ?_
    refine lv_if_ne (tgt := 28) hx hb dX5_mean_20 (by decide) (fun c_3 => ?_) (fun c_3 => ?_)
    · replace hf := if_f c_3 hf
      refine lv_aload_n hx hb dX5_mean_28 rfl (lv_at hl 0 rfl) ?_
      obtain ⟨a_4, ha_4, hf⟩ := bd_e hf
      refine Ct.callV (As := []) (rest := []) (st1 := [.int a_4]) (c_X5_allSins l D cI A M a_4 ha_4) hx hb hml hown hts (cwV 0 hts gX5_mean_X5_allSins rfl rfl rfl hd_X5_allSins ⟨Nat.le_of_ble_eq_true rfl, Nat.le_of_ble_eq_true rfl⟩) (va_recv hK hP (ci := 5) (q0 := 0) rfl cM_at0) (Ln.id rfl) hA hK hP hD hS rfl hl.1 rfl rfl (Nat.le_of_ble_eq_true rfl) dX5_mean_29 (fun H locs hP hD hS => ?_)
      refine lv_i2l (v := (a_4).toInt64) hx hb dX5_mean_32 rfl ?_
      refine lv_aload_n hx hb dX5_mean_33 rfl (lv_at hl 0 rfl) ?_
      refine va_get (D := D) (ci := 5) (v := .int (M 16 1)) (C := RX5) (T := TX5) (N := 27) hx hb hts hw5 hown hK hP 0 cM_at0 rfl 9 (by decide) k65 (fun _ h9 => h9) rfl dX5_mean_34 ?_
      refine lv_i2l (v := ((M 16 1)).toInt64) hx hb dX5_mean_37 rfl ?_
      refine lv_iload_n hx hb dX5_mean_38 rfl (lv_at hl 1 rfl) ?_
      obtain ⟨a_5, ha_5, hf⟩ := bd_e hf
      refine Ct.callS (As := [.long (a_4).toInt64, .long ((M 16 1)).toInt64, .int p1]) (rest := []) (st1 := [.long a_5]) (c_X5_partOf l D cI  (a_4).toInt64 ((M 16 1)).toInt64 p1 a_5 ha_5) hx hb hml hown hts (va_cwS 3 hts gX5_mean_X5_partOf rfl rfl rfl hd_X5_partOf ⟨Nat.le_of_ble_eq_true rfl, Nat.le_of_ble_eq_true rfl⟩) Ln.nil hA hK hP hD hS rfl hl.1 rfl rfl (Nat.le_of_ble_eq_true rfl) dX5_mean_39 (fun H locs hP hD hS => ?_)
      exact hend (a_5, M) H locs _ _ hf hP hS dX5_mean_42
    · replace hf := if_t c_3 hf
      refine lv_iload_n hx hb dX5_mean_23 rfl (lv_at hl 1 rfl) ?_
      refine lv_i2l (v := (p1).toInt64) hx hb dX5_mean_24 rfl ?_
      refine lv_goto (tgt := 42) hx hb dX5_mean_25 (by decide) ?_
      exact hend ((p1).toInt64, M) H locs _ _ hf hP hS dX5_mean_42
  · replace hf := if_t c_2 hf
    refine lv_aload_n hx hb dX5_mean_9 rfl (lv_at hl 0 rfl) ?_
    refine lv_bipush (v := -2) hx hb dX5_mean_10 (by decide +kernel) ?_
    obtain ⟨a_6, ha_6, hf⟩ := bd_e hf
    refine Ct.callV (As := [.int (-2 : Int32)]) (rest := []) (st1 := [.long a_6.1]) (c_X5_lowestOf l D cI A M (-2 : Int32) a_6 ha_6) hx hb hml hown hts (cwV 1 hts gX5_mean_X5_lowestOf rfl rfl rfl hd_X5_lowestOf ⟨Nat.le_of_ble_eq_true rfl, Nat.le_of_ble_eq_true rfl⟩) (va_recv hK hP (ci := 5) (q0 := 0) rfl cM_at0) (Ln.id rfl) hA hK hP hD hS rfl hl.1 rfl rfl (Nat.le_of_ble_eq_true rfl) dX5_mean_12 (fun H locs hP hD hS => ?_)
    replace hP : va_P D vwCl (cM cI A a_6.2) H := hP
    replace hD : va_D AA (cM cI A a_6.2) := hD
    exact hend (a_6.1, a_6.2) H locs _ _ hf hP hS dX5_mean_15

def rm_X5_isSoBy : Room := { frames := 4, cells := 0, slots := 0, locals := 88 }
theorem hd_X5_isSoBy : yX5_isSoBy.cls = RX5 ∧ yX5_isSoBy.cls ≠ "java/lang/invoke/MethodHandle" ∧ yX5_isSoBy.cls ≠ "java/lang/invoke/VarHandle" ∧ (parseMethodDescriptor yX5_isSoBy.desc).map (fun d => d.parameters.length) = some 1 := by decide +kernel
set_option maxRecDepth 100000 in
set_option maxHeartbeats 4000000 in
theorem c_X5_isSoBy (l : Launch) (D : va_G) (cI : ClassId) (A : Nat → Nat) (M : St) (p1 : Int32) (r : Int32 × St) (hf : f_X5_isSoBy M p1 = some r) : Ct l yX5_isSoBy wsX5_isSoBy rm_X5_isSoBy D cI (cM cI A M) (cM cI A r.2) [.ref (A 0), .int p1] (some (.int r.1)) := by
  unfold f_X5_isSoBy at hf
  obtain ⟨hz, hf⟩ := fzp_e hf
  refine Ct.ofZ hz (cc := cX5_isSoBy) (maxL := 4) (by decide +kernel) rfl (Nat.le_of_ble_eq_true rfl) ?_
  intro p e s m args below meth c AA Q H locs ls hx hb hml hown hts hA hK hP hD hS hl hend0
  have hend : ∀ (r1 : Int32 × St) (H : Heap) (locs : List Loc) (pc : Nat) (ls : Array Slot), some r1 = some r → va_P D vwCl (cM cI A r1.2) H → va_S AA s.heap H locs → decode cX5_isSoBy pc = .ok (.ireturn, 1) → W p l e rm_X5_isSoBy s m args below meth c H locs 0 0 Q (F0 m pc ls [.int r1.1]) := by
    intro r1 H locs pc ls e1 hP hS hd; cases e1; exact hend0 H locs pc ls hP hS hd
  clear hend0
  have hw5 : ∀ w ∈ wsX50, w ∈ wsX5_isSoBy := by decide +kernel
  have k16 := hts (.fieldLink RX5 16 "AnchorsForConfessionModel" "loose" "[I") (by decide +kernel)
  have k19 := hts (.fieldLink RX5 19 "AnchorsForConfessionModel" "out" "[I") (by decide +kernel)
  have k55 := hts (.fieldLink RX5 55 "AnchorsForConfessionModel" "row" "[I") (by decide +kernel)
  have k58 := hts (.fieldLink RX5 58 "AnchorsForConfessionModel" "ships" "I") (by decide +kernel)
  have k273 := hts (.fieldLink RX5 273 "AnchorsForConfessionModel" "rowMany" "I") (by decide +kernel)
  replace hl : lv_has ls 4 [(0, .ref (A 0)), (1, .int p1)] := hl
  refine lv_aload_n hx hb dX5_isSoBy_0 rfl (lv_at hl 0 rfl) ?_
  refine lv_iload_n hx hb dX5_isSoBy_1 rfl (lv_at hl 1 rfl) ?_
  obtain ⟨a_1, ha_1, hf⟩ := bd_e hf
  refine Ct.callV (As := [.int p1]) (rest := []) (st1 := [.int a_1]) (c_X5_canTell l D cI A M p1 a_1 ha_1) hx hb hml hown hts (cwV 1 hts gX5_isSoBy_X5_canTell rfl rfl rfl hd_X5_canTell ⟨Nat.le_of_ble_eq_true rfl, Nat.le_of_ble_eq_true rfl⟩) (va_recv hK hP (ci := 5) (q0 := 0) rfl cM_at0) (Ln.id rfl) hA hK hP hD hS rfl hl.1 rfl rfl (Nat.le_of_ble_eq_true rfl) dX5_isSoBy_2 (fun H locs hP hD hS => ?_)
  refine lv_if_ne (tgt := 10) hx hb dX5_isSoBy_5 (by decide) (fun c_2 => ?_) (fun c_2 => ?_)
  · replace hf := if_f c_2 hf
    refine lv_aload_n hx hb dX5_isSoBy_10 rfl (lv_at hl 0 rfl) ?_
    obtain ⟨a_3, ha_3, hf⟩ := bd_e hf
    refine Ct.callV (As := []) (rest := []) (st1 := []) (c_X5_thinks l D cI A M a_3 ha_3) hx hb hml hown hts (cwV 0 hts gX5_isSoBy_X5_thinks rfl rfl rfl hd_X5_thinks ⟨Nat.le_of_ble_eq_true rfl, Nat.le_of_ble_eq_true rfl⟩) (va_recv hK hP (ci := 5) (q0 := 0) rfl cM_at0) (Ln.id rfl) hA hK hP hD hS rfl hl.1 rfl rfl (Nat.le_of_ble_eq_true rfl) dX5_isSoBy_11 (fun H locs hP hD hS => ?_)
    replace hP : va_P D vwCl (cM cI A a_3) H := hP
    replace hD : va_D AA (cM cI A a_3) := hD
    refine lv_aload_n hx hb dX5_isSoBy_14 rfl (lv_at hl 0 rfl) ?_
    refine lv_iload_n hx hb dX5_isSoBy_15 rfl (lv_at hl 1 rfl) ?_
    obtain ⟨a_4, ha_4, hf⟩ := bd_e hf
    refine Ct.callV (As := [.int p1]) (rest := []) (st1 := [.int a_4.1]) (c_X5_tellsOne l D cI A a_3 p1 a_4 ha_4) hx hb hml hown hts (cwV 1 hts gX5_isSoBy_X5_tellsOne rfl rfl rfl hd_X5_tellsOne ⟨Nat.le_of_ble_eq_true rfl, Nat.le_of_ble_eq_true rfl⟩) (va_recv hK hP (ci := 5) (q0 := 0) rfl cM_at0) (Ln.id rfl) hA hK hP hD hS rfl hl.1 rfl rfl (Nat.le_of_ble_eq_true rfl) dX5_isSoBy_16 (fun H locs hP hD hS => ?_)
    replace hP : va_P D vwCl (cM cI A a_4.2) H := hP
    replace hD : va_D AA (cM cI A a_4.2) := hD
    refine lv_pop hx hb dX5_isSoBy_19 rfl ?_
    refine lv_aload_n hx hb dX5_isSoBy_20 rfl (lv_at hl 0 rfl) ?_
    refine va_get (D := D) (ci := 5) (v := .int (a_4.2 16 10)) (C := RX5) (T := TX5) (N := 27) hx hb hts hw5 hown hK hP 0 cM_at0 rfl 26 (by decide) k273 (fun _ h9 => h9) rfl dX5_isSoBy_21 ?_
    refine lv_aload_n hx hb dX5_isSoBy_24 rfl (lv_at hl 0 rfl) ?_
    refine va_get (D := D) (ci := 5) (v := .int (a_4.2 16 0)) (C := RX5) (T := TX5) (N := 27) hx hb hts hw5 hown hK hP 0 cM_at0 rfl 8 (by decide) k58 (fun _ h9 => h9) rfl dX5_isSoBy_25 ?_
    refine lv_icmp_gt (tgt := 35) hx hb dX5_isSoBy_28 (by decide) (fun c_5 => ?_) (fun c_5 => ?_)
    · replace hf := if_t c_5 hf
      refine lv_iconst (v := 0) hx hb dX5_isSoBy_35 (by decide) ?_
      refine lv_istore_n (lv' := [(2, .int (0 : Int32)), (0, .ref (A 0)), (1, .int p1)]) hx hb dX5_isSoBy_36 rfl hl (by decide) rfl (fun ls hl => ?_)
      refine lv_iconst (v := 0) hx hb dX5_isSoBy_37 (by decide) ?_
      refine lv_istore_n (lv' := [(3, .int (0 : Int32)), (2, .int (0 : Int32)), (0, .ref (A 0)), (1, .int p1)]) hx hb dX5_isSoBy_38 rfl hl (by decide) rfl (fun ls hl => ?_)
      refine lp_ind (P := fun (q39 : Int32 × Int32) => ∀ (H : Heap) (locs : List Loc) (ls : Array Slot), va_P D vwCl (cM cI A a_4.2) H → va_D AA (cM cI A a_4.2) → va_S AA s.heap H locs → lv_has ls 4 [(0, .ref (A 0)), (2, .int q39.1), (3, .int q39.2)] → W p l e rm_X5_isSoBy s m args below meth c H locs 0 0 Q (F0 m 39 ls [])) hf ?_ H locs ls hP hD hS (lv_sub hl [2, 1, 0] rfl)
      clear hf hP hD hS hl
      intro nx39 ih39 q39 hf H locs ls hP hD hS hl
      refine lv_iload_n hx hb dX5_isSoBy_39 rfl (lv_at hl 2 rfl) ?_
      refine lv_aload_n hx hb dX5_isSoBy_40 rfl (lv_at hl 0 rfl) ?_
      refine va_get (D := D) (ci := 5) (v := .int (a_4.2 16 10)) (C := RX5) (T := TX5) (N := 27) hx hb hts hw5 hown hK hP 0 cM_at0 rfl 26 (by decide) k273 (fun _ h9 => h9) rfl dX5_isSoBy_41 ?_
      refine lv_icmp_ge (tgt := 92) hx hb dX5_isSoBy_44 (by decide) (fun c_6 => ?_) (fun c_6 => ?_)
      · replace hf := if_t c_6 hf
        refine lv_aload_n hx hb dX5_isSoBy_92 rfl (lv_at hl 0 rfl) ?_
        obtain ⟨a_7, ha_7, hf⟩ := bd_e hf
        refine Ct.callV (As := []) (rest := []) (st1 := []) (c_X5_forgets l D cI A a_4.2 a_7 ha_7) hx hb hml hown hts (cwV 0 hts gX5_isSoBy_X5_forgets rfl rfl rfl hd_X5_forgets ⟨Nat.le_of_ble_eq_true rfl, Nat.le_of_ble_eq_true rfl⟩) (va_recv hK hP (ci := 5) (q0 := 0) rfl cM_at0) (Ln.id rfl) hA hK hP hD hS rfl hl.1 rfl rfl (Nat.le_of_ble_eq_true rfl) dX5_isSoBy_93 (fun H locs hP hD hS => ?_)
        replace hP : va_P D vwCl (cM cI A a_7) H := hP
        replace hD : va_D AA (cM cI A a_7) := hD
        refine lv_iload_n hx hb dX5_isSoBy_96 rfl (lv_at hl 1 rfl) ?_
        exact hend (q39.1, a_7) H locs _ _ hf hP hS dX5_isSoBy_97
      · replace hf := if_f c_6 hf
        refine lv_iload_n hx hb dX5_isSoBy_47 rfl (lv_at hl 1 rfl) ?_
        refine lv_if_eq (tgt := 92) hx hb dX5_isSoBy_48 (by decide) (fun c_8 => ?_) (fun c_8 => ?_)
        · replace hf := if_t c_8 hf
          refine lv_aload_n hx hb dX5_isSoBy_92 rfl (lv_at hl 0 rfl) ?_
          obtain ⟨a_9, ha_9, hf⟩ := bd_e hf
          refine Ct.callV (As := []) (rest := []) (st1 := []) (c_X5_forgets l D cI A a_4.2 a_9 ha_9) hx hb hml hown hts (cwV 0 hts gX5_isSoBy_X5_forgets rfl rfl rfl hd_X5_forgets ⟨Nat.le_of_ble_eq_true rfl, Nat.le_of_ble_eq_true rfl⟩) (va_recv hK hP (ci := 5) (q0 := 0) rfl cM_at0) (Ln.id rfl) hA hK hP hD hS rfl hl.1 rfl rfl (Nat.le_of_ble_eq_true rfl) dX5_isSoBy_93 (fun H locs hP hD hS => ?_)
          replace hP : va_P D vwCl (cM cI A a_9) H := hP
          replace hD : va_D AA (cM cI A a_9) := hD
          refine lv_iload_n hx hb dX5_isSoBy_96 rfl (lv_at hl 1 rfl) ?_
          exact hend (q39.1, a_9) H locs _ _ hf hP hS dX5_isSoBy_97
        · replace hf := if_f c_8 hf
          refine lv_aload_n hx hb dX5_isSoBy_51 rfl (lv_at hl 0 rfl) ?_
          refine va_get (D := D) (ci := 5) (v := .ref (A 4)) (C := RX5) (T := TX5) (N := 27) hx hb hts hw5 hown hK hP 0 cM_at0 rfl 3 (by decide) k19 (fun _ h9 => h9) rfl dX5_isSoBy_52 ?_
          refine lv_iload_n hx hb dX5_isSoBy_55 rfl (lv_at hl 2 rfl) ?_
          obtain ⟨c_10, hf⟩ := gi_e hf
          refine va_iald hx hb hK hP 4 0 cM_at4 rfl c_10 dX5_isSoBy_56 ?_
          refine lv_if_le (tgt := 65) hx hb dX5_isSoBy_57 (by decide) (fun c_11 => ?_) (fun c_11 => ?_)
          · replace hf := if_t c_11 hf
            refine lv_aload_n hx hb dX5_isSoBy_65 rfl (lv_at hl 0 rfl) ?_
            refine va_get (D := D) (ci := 5) (v := .ref (A 3)) (C := RX5) (T := TX5) (N := 27) hx hb hts hw5 hown hK hP 0 cM_at0 rfl 2 (by decide) k16 (fun _ h9 => h9) rfl dX5_isSoBy_66 ?_
            refine lv_iload_n hx hb dX5_isSoBy_69 rfl (lv_at hl 2 rfl) ?_
            obtain ⟨c_12, hf⟩ := gi_e hf
            refine va_iald hx hb hK hP 3 0 cM_at3 rfl c_12 dX5_isSoBy_70 ?_
            refine lv_aload_n hx hb dX5_isSoBy_71 rfl (lv_at hl 0 rfl) ?_
            refine va_get (D := D) (ci := 5) (v := .ref (A 16)) (C := RX5) (T := TX5) (N := 27) hx hb hts hw5 hown hK hP 0 cM_at0 rfl 25 (by decide) k55 (fun _ h9 => h9) rfl dX5_isSoBy_72 ?_
            refine lv_iload_n hx hb dX5_isSoBy_75 rfl (lv_at hl 2 rfl) ?_
            obtain ⟨c_13, hf⟩ := gi_e hf
            refine va_iald hx hb hK hP 16 0 cM_at16 rfl c_13 dX5_isSoBy_76 ?_
            refine lv_icmp_ne (tgt := 84) hx hb dX5_isSoBy_77 (by decide) (fun c_14 => ?_) (fun c_14 => ?_)
            · replace hf := if_f c_14 hf
              refine lv_iconst (v := 0) hx hb dX5_isSoBy_84 (by decide) ?_
              refine lv_istore_n (lv' := [(2, .int (0 : Int32)), (0, .ref (A 0)), (3, .int q39.2)]) hx hb dX5_isSoBy_85 rfl hl (by decide) rfl (fun ls hl => ?_)
              obtain ⟨v_15, ev_15, hf⟩ := nq_e hf
              refine lv_iinc (v := v_15) (lv' := [(3, .int v_15), (2, .int (0 : Int32)), (0, .ref (A 0))]) hx hb dX5_isSoBy_86 hl (k := 2) rfl (by rw [ev_15]; rfl) (by decide) rfl (fun ls hl => ?_)
              refine lv_goto (tgt := 39) hx hb dX5_isSoBy_89 (by decide) ?_
              exact ih39 ((0 : Int32), v_15) hf H locs ls hP hD hS (lv_sub hl [2, 1, 0] rfl)
            · replace hf := if_t c_14 hf
              refine lv_iconst (v := 1) hx hb dX5_isSoBy_80 (by decide) ?_
              refine lv_goto (tgt := 85) hx hb dX5_isSoBy_81 (by decide) ?_
              refine lv_istore_n (lv' := [(2, .int (1 : Int32)), (0, .ref (A 0)), (3, .int q39.2)]) hx hb dX5_isSoBy_85 rfl hl (by decide) rfl (fun ls hl => ?_)
              obtain ⟨v_16, ev_16, hf⟩ := nq_e hf
              refine lv_iinc (v := v_16) (lv' := [(3, .int v_16), (2, .int (1 : Int32)), (0, .ref (A 0))]) hx hb dX5_isSoBy_86 hl (k := 2) rfl (by rw [ev_16]; rfl) (by decide) rfl (fun ls hl => ?_)
              refine lv_goto (tgt := 39) hx hb dX5_isSoBy_89 (by decide) ?_
              exact ih39 ((1 : Int32), v_16) hf H locs ls hP hD hS (lv_sub hl [2, 1, 0] rfl)
          · replace hf := if_f c_11 hf
            refine lv_bipush (v := 98) hx hb dX5_isSoBy_60 (by decide +kernel) ?_
            refine lv_goto (tgt := 71) hx hb dX5_isSoBy_62 (by decide) ?_
            refine lv_aload_n hx hb dX5_isSoBy_71 rfl (lv_at hl 0 rfl) ?_
            refine va_get (D := D) (ci := 5) (v := .ref (A 16)) (C := RX5) (T := TX5) (N := 27) hx hb hts hw5 hown hK hP 0 cM_at0 rfl 25 (by decide) k55 (fun _ h9 => h9) rfl dX5_isSoBy_72 ?_
            refine lv_iload_n hx hb dX5_isSoBy_75 rfl (lv_at hl 2 rfl) ?_
            obtain ⟨c_17, hf⟩ := gi_e hf
            refine va_iald hx hb hK hP 16 0 cM_at16 rfl c_17 dX5_isSoBy_76 ?_
            refine lv_icmp_ne (tgt := 84) hx hb dX5_isSoBy_77 (by decide) (fun c_18 => ?_) (fun c_18 => ?_)
            · replace hf := if_f c_18 hf
              refine lv_iconst (v := 0) hx hb dX5_isSoBy_84 (by decide) ?_
              refine lv_istore_n (lv' := [(2, .int (0 : Int32)), (0, .ref (A 0)), (3, .int q39.2)]) hx hb dX5_isSoBy_85 rfl hl (by decide) rfl (fun ls hl => ?_)
              obtain ⟨v_19, ev_19, hf⟩ := nq_e hf
              refine lv_iinc (v := v_19) (lv' := [(3, .int v_19), (2, .int (0 : Int32)), (0, .ref (A 0))]) hx hb dX5_isSoBy_86 hl (k := 2) rfl (by rw [ev_19]; rfl) (by decide) rfl (fun ls hl => ?_)
              refine lv_goto (tgt := 39) hx hb dX5_isSoBy_89 (by decide) ?_
              exact ih39 ((0 : Int32), v_19) hf H locs ls hP hD hS (lv_sub hl [2, 1, 0] rfl)
            · replace hf := if_t c_18 hf
              refine lv_iconst (v := 1) hx hb dX5_isSoBy_80 (by decide) ?_
              refine lv_goto (tgt := 85) hx hb dX5_isSoBy_81 (by decide) ?_
              refine lv_istore_n (lv' := [(2, .int (1 : Int32)), (0, .ref (A 0)), (3, .int q39.2)]) hx hb dX5_isSoBy_85 rfl hl (by decide) rfl (fun ls hl => ?_)
              obtain ⟨v_20, ev_20, hf⟩ := nq_e hf
              refine lv_iinc (v := v_20) (lv' := [(3, .int v_20), (2, .int (1 : Int32)), (0, .ref (A 0))]) hx hb dX5_isSoBy_86 hl (k := 2) rfl (by rw [ev_20]; rfl) (by decide) rfl (fun ls hl => ?_)
              refine lv_goto (tgt := 39) hx hb dX5_isSoBy_89 (by decide) ?_
              exact ih39 ((1 : Int32), v_20) hf H locs ls hP hD hS (lv_sub hl [2, 1, 0] rfl)
    · replace hf := if_f c_5 hf
      refine lv_iconst (v := 1) hx hb dX5_isSoBy_31 (by decide) ?_
      refine lv_goto (tgt := 36) hx hb dX5_isSoBy_32 (by decide) ?_
      refine lv_istore_n (lv' := [(2, .int (1 : Int32)), (0, .ref (A 0)), (1, .int p1)]) hx hb dX5_isSoBy_36 rfl hl (by decide) rfl (fun ls hl => ?_)
      refine lv_iconst (v := 0) hx hb dX5_isSoBy_37 (by decide) ?_
      refine lv_istore_n (lv' := [(3, .int (0 : Int32)), (2, .int (1 : Int32)), (0, .ref (A 0)), (1, .int p1)]) hx hb dX5_isSoBy_38 rfl hl (by decide) rfl (fun ls hl => ?_)
      refine lp_ind (P := fun (q39 : Int32 × Int32) => ∀ (H : Heap) (locs : List Loc) (ls : Array Slot), va_P D vwCl (cM cI A a_4.2) H → va_D AA (cM cI A a_4.2) → va_S AA s.heap H locs → lv_has ls 4 [(0, .ref (A 0)), (2, .int q39.1), (3, .int q39.2)] → W p l e rm_X5_isSoBy s m args below meth c H locs 0 0 Q (F0 m 39 ls [])) hf ?_ H locs ls hP hD hS (lv_sub hl [2, 1, 0] rfl)
      clear hf hP hD hS hl
      intro nx39 ih39 q39 hf H locs ls hP hD hS hl
      refine lv_iload_n hx hb dX5_isSoBy_39 rfl (lv_at hl 2 rfl) ?_
      refine lv_aload_n hx hb dX5_isSoBy_40 rfl (lv_at hl 0 rfl) ?_
      refine va_get (D := D) (ci := 5) (v := .int (a_4.2 16 10)) (C := RX5) (T := TX5) (N := 27) hx hb hts hw5 hown hK hP 0 cM_at0 rfl 26 (by decide) k273 (fun _ h9 => h9) rfl dX5_isSoBy_41 ?_
      refine lv_icmp_ge (tgt := 92) hx hb dX5_isSoBy_44 (by decide) (fun c_21 => ?_) (fun c_21 => ?_)
      · replace hf := if_t c_21 hf
        refine lv_aload_n hx hb dX5_isSoBy_92 rfl (lv_at hl 0 rfl) ?_
        obtain ⟨a_22, ha_22, hf⟩ := bd_e hf
        refine Ct.callV (As := []) (rest := []) (st1 := []) (c_X5_forgets l D cI A a_4.2 a_22 ha_22) hx hb hml hown hts (cwV 0 hts gX5_isSoBy_X5_forgets rfl rfl rfl hd_X5_forgets ⟨Nat.le_of_ble_eq_true rfl, Nat.le_of_ble_eq_true rfl⟩) (va_recv hK hP (ci := 5) (q0 := 0) rfl cM_at0) (Ln.id rfl) hA hK hP hD hS rfl hl.1 rfl rfl (Nat.le_of_ble_eq_true rfl) dX5_isSoBy_93 (fun H locs hP hD hS => ?_)
        replace hP : va_P D vwCl (cM cI A a_22) H := hP
        replace hD : va_D AA (cM cI A a_22) := hD
        refine lv_iload_n hx hb dX5_isSoBy_96 rfl (lv_at hl 1 rfl) ?_
        exact hend (q39.1, a_22) H locs _ _ hf hP hS dX5_isSoBy_97
      · replace hf := if_f c_21 hf
        refine lv_iload_n hx hb dX5_isSoBy_47 rfl (lv_at hl 1 rfl) ?_
        refine lv_if_eq (tgt := 92) hx hb dX5_isSoBy_48 (by decide) (fun c_23 => ?_) (fun c_23 => ?_)
        · replace hf := if_t c_23 hf
          refine lv_aload_n hx hb dX5_isSoBy_92 rfl (lv_at hl 0 rfl) ?_
          obtain ⟨a_24, ha_24, hf⟩ := bd_e hf
          refine Ct.callV (As := []) (rest := []) (st1 := []) (c_X5_forgets l D cI A a_4.2 a_24 ha_24) hx hb hml hown hts (cwV 0 hts gX5_isSoBy_X5_forgets rfl rfl rfl hd_X5_forgets ⟨Nat.le_of_ble_eq_true rfl, Nat.le_of_ble_eq_true rfl⟩) (va_recv hK hP (ci := 5) (q0 := 0) rfl cM_at0) (Ln.id rfl) hA hK hP hD hS rfl hl.1 rfl rfl (Nat.le_of_ble_eq_true rfl) dX5_isSoBy_93 (fun H locs hP hD hS => ?_)
          replace hP : va_P D vwCl (cM cI A a_24) H := hP
          replace hD : va_D AA (cM cI A a_24) := hD
          refine lv_iload_n hx hb dX5_isSoBy_96 rfl (lv_at hl 1 rfl) ?_
          exact hend (q39.1, a_24) H locs _ _ hf hP hS dX5_isSoBy_97
        · replace hf := if_f c_23 hf
          refine lv_aload_n hx hb dX5_isSoBy_51 rfl (lv_at hl 0 rfl) ?_
          refine va_get (D := D) (ci := 5) (v := .ref (A 4)) (C := RX5) (T := TX5) (N := 27) hx hb hts hw5 hown hK hP 0 cM_at0 rfl 3 (by decide) k19 (fun _ h9 => h9) rfl dX5_isSoBy_52 ?_
          refine lv_iload_n hx hb dX5_isSoBy_55 rfl (lv_at hl 2 rfl) ?_
          obtain ⟨c_25, hf⟩ := gi_e hf
          refine va_iald hx hb hK hP 4 0 cM_at4 rfl c_25 dX5_isSoBy_56 ?_
          refine lv_if_le (tgt := 65) hx hb dX5_isSoBy_57 (by decide) (fun c_26 => ?_) (fun c_26 => ?_)
          · replace hf := if_t c_26 hf
            refine lv_aload_n hx hb dX5_isSoBy_65 rfl (lv_at hl 0 rfl) ?_
            refine va_get (D := D) (ci := 5) (v := .ref (A 3)) (C := RX5) (T := TX5) (N := 27) hx hb hts hw5 hown hK hP 0 cM_at0 rfl 2 (by decide) k16 (fun _ h9 => h9) rfl dX5_isSoBy_66 ?_
            refine lv_iload_n hx hb dX5_isSoBy_69 rfl (lv_at hl 2 rfl) ?_
            obtain ⟨c_27, hf⟩ := gi_e hf
            refine va_iald hx hb hK hP 3 0 cM_at3 rfl c_27 dX5_isSoBy_70 ?_
            refine lv_aload_n hx hb dX5_isSoBy_71 rfl (lv_at hl 0 rfl) ?_
            refine va_get (D := D) (ci := 5) (v := .ref (A 16)) (C := RX5) (T := TX5) (N := 27) hx hb hts hw5 hown hK hP 0 cM_at0 rfl 25 (by decide) k55 (fun _ h9 => h9) rfl dX5_isSoBy_72 ?_
            refine lv_iload_n hx hb dX5_isSoBy_75 rfl (lv_at hl 2 rfl) ?_
            obtain ⟨c_28, hf⟩ := gi_e hf
            refine va_iald hx hb hK hP 16 0 cM_at16 rfl c_28 dX5_isSoBy_76 ?_
            refine lv_icmp_ne (tgt := 84) hx hb dX5_isSoBy_77 (by decide) (fun c_29 => ?_) (fun c_29 => ?_)
            · replace hf := if_f c_29 hf
              refine lv_iconst (v := 0) hx hb dX5_isSoBy_84 (by decide) ?_
              refine lv_istore_n (lv' := [(2, .int (0 : Int32)), (0, .ref (A 0)), (3, .int q39.2)]) hx hb dX5_isSoBy_85 rfl hl (by decide) rfl (fun ls hl => ?_)
              obtain ⟨v_30, ev_30, hf⟩ := nq_e hf
              refine lv_iinc (v := v_30) (lv' := [(3, .int v_30), (2, .int (0 : Int32)), (0, .ref (A 0))]) hx hb dX5_isSoBy_86 hl (k := 2) rfl (by rw [ev_30]; rfl) (by decide) rfl (fun ls hl => ?_)
              refine lv_goto (tgt := 39) hx hb dX5_isSoBy_89 (by decide) ?_
              exact ih39 ((0 : Int32), v_30) hf H locs ls hP hD hS (lv_sub hl [2, 1, 0] rfl)
            · replace hf := if_t c_29 hf
              refine lv_iconst (v := 1) hx hb dX5_isSoBy_80 (by decide) ?_
              refine lv_goto (tgt := 85) hx hb dX5_isSoBy_81 (by decide) ?_
              refine lv_istore_n (lv' := [(2, .int (1 : Int32)), (0, .ref (A 0)), (3, .int q39.2)]) hx hb dX5_isSoBy_85 rfl hl (by decide) rfl (fun ls hl => ?_)
              obtain ⟨v_31, ev_31, hf⟩ := nq_e hf
              refine lv_iinc (v := v_31) (lv' := [(3, .int v_31), (2, .int (1 : Int32)), (0, .ref (A 0))]) hx hb dX5_isSoBy_86 hl (k := 2) rfl (by rw [ev_31]; rfl) (by decide) rfl (fun ls hl => ?_)
              refine lv_goto (tgt := 39) hx hb dX5_isSoBy_89 (by decide) ?_
              exact ih39 ((1 : Int32), v_31) hf H locs ls hP hD hS (lv_sub hl [2, 1, 0] rfl)
          · replace hf := if_f c_26 hf
            refine lv_bipush (v := 98) hx hb dX5_isSoBy_60 (by decide +kernel) ?_
            refine lv_goto (tgt := 71) hx hb dX5_isSoBy_62 (by decide) ?_
            refine lv_aload_n hx hb dX5_isSoBy_71 rfl (lv_at hl 0 rfl) ?_
            refine va_get (D := D) (ci := 5) (v := .ref (A 16)) (C := RX5) (T := TX5) (N := 27) hx hb hts hw5 hown hK hP 0 cM_at0 rfl 25 (by decide) k55 (fun _ h9 => h9) rfl dX5_isSoBy_72 ?_
            refine lv_iload_n hx hb dX5_isSoBy_75 rfl (lv_at hl 2 rfl) ?_
            obtain ⟨c_32, hf⟩ := gi_e hf
            refine va_iald hx hb hK hP 16 0 cM_at16 rfl c_32 dX5_isSoBy_76 ?_
            refine lv_icmp_ne (tgt := 84) hx hb dX5_isSoBy_77 (by decide) (fun c_33 => ?_) (fun c_33 => ?_)
            · replace hf := if_f c_33 hf
              refine lv_iconst (v := 0) hx hb dX5_isSoBy_84 (by decide) ?_
              refine lv_istore_n (lv' := [(2, .int (0 : Int32)), (0, .ref (A 0)), (3, .int q39.2)]) hx hb dX5_isSoBy_85 rfl hl (by decide) rfl (fun ls hl => ?_)
              obtain ⟨v_34, ev_34, hf⟩ := nq_e hf
              refine lv_iinc (v := v_34) (lv' := [(3, .int v_34), (2, .int (0 : Int32)), (0, .ref (A 0))]) hx hb dX5_isSoBy_86 hl (k := 2) rfl (by rw [ev_34]; rfl) (by decide) rfl (fun ls hl => ?_)
              refine lv_goto (tgt := 39) hx hb dX5_isSoBy_89 (by decide) ?_
              exact ih39 ((0 : Int32), v_34) hf H locs ls hP hD hS (lv_sub hl [2, 1, 0] rfl)
            · replace hf := if_t c_33 hf
              refine lv_iconst (v := 1) hx hb dX5_isSoBy_80 (by decide) ?_
              refine lv_goto (tgt := 85) hx hb dX5_isSoBy_81 (by decide) ?_
              refine lv_istore_n (lv' := [(2, .int (1 : Int32)), (0, .ref (A 0)), (3, .int q39.2)]) hx hb dX5_isSoBy_85 rfl hl (by decide) rfl (fun ls hl => ?_)
              obtain ⟨v_35, ev_35, hf⟩ := nq_e hf
              refine lv_iinc (v := v_35) (lv' := [(3, .int v_35), (2, .int (1 : Int32)), (0, .ref (A 0))]) hx hb dX5_isSoBy_86 hl (k := 2) rfl (by rw [ev_35]; rfl) (by decide) rfl (fun ls hl => ?_)
              refine lv_goto (tgt := 39) hx hb dX5_isSoBy_89 (by decide) ?_
              exact ih39 ((1 : Int32), v_35) hf H locs ls hP hD hS (lv_sub hl [2, 1, 0] rfl)
  · replace hf := if_t c_2 hf
    refine lv_iconst (v := 0) hx hb dX5_isSoBy_8 (by decide) ?_
    exact hend ((0 : Int32), M) H locs _ _ hf hP hS dX5_isSoBy_9

def rm_X5_whoTold : Room := { frames := 5, cells := 0, slots := 0, locals := 111 }
theorem hd_X5_whoTold : yX5_whoTold.cls = RX5 ∧ yX5_whoTold.cls ≠ "java/lang/invoke/MethodHandle" ∧ yX5_whoTold.cls ≠ "java/lang/invoke/VarHandle" ∧ (parseMethodDescriptor yX5_whoTold.desc).map (fun d => d.parameters.length) = some 0 := by decide +kernel
set_option maxRecDepth 100000 in
set_option maxHeartbeats 4000000 in
theorem c_X5_whoTold (l : Launch) (D : va_G) (cI : ClassId) (A : Nat → Nat) (M : St) (r : Int32 × St) (hf : f_X5_whoTold M = some r) : Ct l yX5_whoTold wsX5_whoTold rm_X5_whoTold D cI (cM cI A M) (cM cI A r.2) [.ref (A 0)] (some (.int r.1)) := by
  unfold f_X5_whoTold at hf
  refine Ct.ofI (cc := cX5_whoTold) (maxL := 3) (by decide +kernel) rfl (Nat.le_of_ble_eq_true rfl) ?_
  intro p e s m args below meth c AA Q H locs ls hx hb hml hown hts hA hK hP hD hS hl hend0
  have hend : ∀ (r1 : Int32 × St) (H : Heap) (locs : List Loc) (pc : Nat) (ls : Array Slot), some r1 = some r → va_P D vwCl (cM cI A r1.2) H → va_S AA s.heap H locs → decode cX5_whoTold pc = .ok (.ireturn, 1) → W p l e rm_X5_whoTold s m args below meth c H locs 0 0 Q (F0 m pc ls [.int r1.1]) := by
    intro r1 H locs pc ls e1 hP hS hd; cases e1; exact hend0 H locs pc ls hP hS hd
  clear hend0
  have hw5 : ∀ w ∈ wsX50, w ∈ wsX5_whoTold := by decide +kernel
  have k65 := hts (.fieldLink RX5 65 "AnchorsForConfessionModel" "men" "I") (by decide +kernel)
  replace hl : lv_has ls 3 [(0, .ref (A 0))] := hl
  refine lv_iconst (v := 0) hx hb dX5_whoTold_0 (by decide) ?_
  refine lv_istore_n (lv' := [(1, .int (0 : Int32)), (0, .ref (A 0))]) hx hb dX5_whoTold_1 rfl hl (by decide) rfl (fun ls hl => ?_)
  refine lv_iconst (v := 0) hx hb dX5_whoTold_2 (by decide) ?_
  refine lv_istore_n (lv' := [(2, .int (0 : Int32)), (1, .int (0 : Int32)), (0, .ref (A 0))]) hx hb dX5_whoTold_3 rfl hl (by decide) rfl (fun ls hl => ?_)
  refine lp_ind (P := fun (q4 : Int32 × Int32 × St) => ∀ (H : Heap) (locs : List Loc) (ls : Array Slot), va_P D vwCl (cM cI A q4.2.2) H → va_D AA (cM cI A q4.2.2) → va_S AA s.heap H locs → lv_has ls 3 [(0, .ref (A 0)), (1, .int q4.1), (2, .int q4.2.1)] → W p l e rm_X5_whoTold s m args below meth c H locs 0 0 Q (F0 m 4 ls [])) hf ?_ H locs ls hP hD hS (lv_sub hl [2, 1, 0] rfl)
  clear hf hP hD hS hl
  intro nx4 ih4 q4 hf H locs ls hP hD hS hl
  refine lv_iload_n hx hb dX5_whoTold_4 rfl (lv_at hl 2 rfl) ?_
  refine lv_aload_n hx hb dX5_whoTold_5 rfl (lv_at hl 0 rfl) ?_
  refine va_get (D := D) (ci := 5) (v := .int (q4.2.2 16 1)) (C := RX5) (T := TX5) (N := 27) hx hb hts hw5 hown hK hP 0 cM_at0 rfl 9 (by decide) k65 (fun _ h9 => h9) rfl dX5_whoTold_6 ?_
  refine lv_icmp_ge (tgt := 36) hx hb dX5_whoTold_9 (by decide) (fun c_1 => ?_) (fun c_1 => ?_)
  · replace hf := if_t c_1 hf
    refine lv_iload_n hx hb dX5_whoTold_36 rfl (lv_at hl 1 rfl) ?_
    exact hend (q4.1, q4.2.2) H locs _ _ hf hP hS dX5_whoTold_37
  · replace hf := if_f c_1 hf
    refine lv_iload_n hx hb dX5_whoTold_12 rfl (lv_at hl 1 rfl) ?_
    refine lv_aload_n hx hb dX5_whoTold_13 rfl (lv_at hl 0 rfl) ?_
    refine lv_iload_n hx hb dX5_whoTold_14 rfl (lv_at hl 2 rfl) ?_
    obtain ⟨a_2, ha_2, hf⟩ := bd_e hf
    refine Ct.callV (As := [.int q4.2.1]) (rest := [.int q4.1]) (st1 := [.int a_2.1, .int q4.1]) (c_X5_isSoBy l D cI A q4.2.2 q4.2.1 a_2 ha_2) hx hb hml hown hts (cwV 1 hts gX5_whoTold_X5_isSoBy rfl rfl rfl hd_X5_isSoBy ⟨Nat.le_of_ble_eq_true rfl, Nat.le_of_ble_eq_true rfl⟩) (va_recv hK hP (ci := 5) (q0 := 0) rfl cM_at0) (Ln.id rfl) hA hK hP hD hS rfl hl.1 rfl rfl (Nat.le_of_ble_eq_true rfl) dX5_whoTold_15 (fun H locs hP hD hS => ?_)
    replace hP : va_P D vwCl (cM cI A a_2.2) H := hP
    replace hD : va_D AA (cM cI A a_2.2) := hD
    refine lv_if_eq (tgt := 27) hx hb dX5_whoTold_18 (by decide) (fun c_3 => ?_) (fun c_3 => ?_)
    · replace hf := if_t c_3 hf
      refine lv_iconst (v := 0) hx hb dX5_whoTold_27 (by decide) ?_
      refine lv_ior hx hb dX5_whoTold_28 ?_
      refine lv_topi (fun v_4 ev_4 => ?_)
      replace hf := nm_at ev_4 hf
      refine lv_istore_n (lv' := [(1, .int v_4), (0, .ref (A 0)), (2, .int q4.2.1)]) hx hb dX5_whoTold_29 rfl hl (by decide) rfl (fun ls hl => ?_)
      obtain ⟨v_5, ev_5, hf⟩ := nq_e hf
      refine lv_iinc (v := v_5) (lv' := [(2, .int v_5), (1, .int v_4), (0, .ref (A 0))]) hx hb dX5_whoTold_30 hl (k := 2) rfl (by rw [ev_5]; rfl) (by decide) rfl (fun ls hl => ?_)
      refine lv_goto (tgt := 4) hx hb dX5_whoTold_33 (by decide) ?_
      exact ih4 (v_4, v_5, a_2.2) hf H locs ls hP hD hS (lv_sub hl [2, 1, 0] rfl)
    · replace hf := if_f c_3 hf
      refine lv_iconst (v := 1) hx hb dX5_whoTold_21 (by decide) ?_
      refine lv_iload_n hx hb dX5_whoTold_22 rfl (lv_at hl 2 rfl) ?_
      refine lv_ishl hx hb dX5_whoTold_23 ?_
      refine lv_goto (tgt := 28) hx hb dX5_whoTold_24 (by decide) ?_
      refine lv_ior hx hb dX5_whoTold_28 ?_
      refine lv_topi (fun v_6 ev_6 => ?_)
      replace hf := nm_at ev_6 hf
      refine lv_istore_n (lv' := [(1, .int v_6), (0, .ref (A 0)), (2, .int q4.2.1)]) hx hb dX5_whoTold_29 rfl hl (by decide) rfl (fun ls hl => ?_)
      obtain ⟨v_7, ev_7, hf⟩ := nq_e hf
      refine lv_iinc (v := v_7) (lv' := [(2, .int v_7), (1, .int v_6), (0, .ref (A 0))]) hx hb dX5_whoTold_30 hl (k := 2) rfl (by rw [ev_7]; rfl) (by decide) rfl (fun ls hl => ?_)
      refine lv_goto (tgt := 4) hx hb dX5_whoTold_33 (by decide) ?_
      exact ih4 (v_6, v_7, a_2.2) hf H locs ls hP hD hS (lv_sub hl [2, 1, 0] rfl)

def rm_X5_bitsFor_a5 : Room := { frames := 5, cells := 0, slots := 0, locals := 111 }
theorem hd_X5_bitsFor : yX5_bitsFor.cls = RX5 ∧ yX5_bitsFor.cls ≠ "java/lang/invoke/MethodHandle" ∧ yX5_bitsFor.cls ≠ "java/lang/invoke/VarHandle" ∧ (parseMethodDescriptor yX5_bitsFor.desc).map (fun d => d.parameters.length) = some 3 := by decide +kernel
set_option maxRecDepth 100000 in
set_option maxHeartbeats 4000000 in
theorem c_X5_bitsFor_a5 (l : Launch) (D : va_G) (cI : ClassId) (A : Nat → Nat) (M : St) (p2 : Int32) (p3 : Int32) (r : Int32 × St) (hf : f_X5_bitsFor_a5 M p2 p3 = some r) : Ct l yX5_bitsFor wsX5_bitsFor rm_X5_bitsFor_a5 D cI (cM cI A M) (cM cI A r.2) [.ref (A 0), .ref (A 5), .int p2, .int p3] (some (.int r.1)) := by
  unfold f_X5_bitsFor_a5 at hf
  refine Ct.ofI (cc := cX5_bitsFor) (maxL := 7) (by decide +kernel) rfl (Nat.le_of_ble_eq_true rfl) ?_
  intro p e s m args below meth c AA Q H locs ls hx hb hml hown hts hA hK hP hD hS hl hend0
  have hend : ∀ (r1 : Int32 × St) (H : Heap) (locs : List Loc) (pc : Nat) (ls : Array Slot), some r1 = some r → va_P D vwCl (cM cI A r1.2) H → va_S AA s.heap H locs → decode cX5_bitsFor pc = .ok (.ireturn, 1) → W p l e rm_X5_bitsFor_a5 s m args below meth c H locs 0 0 Q (F0 m pc ls [.int r1.1]) := by
    intro r1 H locs pc ls e1 hP hS hd; cases e1; exact hend0 H locs pc ls hP hS hd
  clear hend0
  replace hl : lv_has ls 7 [(0, .ref (A 0)), (1, .ref (A 5)), (2, .int p2), (3, .int p3)] := hl
  refine lv_aload_n hx hb dX5_bitsFor_0 rfl (lv_at hl 1 rfl) ?_
  refine lv_iload_n hx hb dX5_bitsFor_1 rfl (lv_at hl 2 rfl) ?_
  obtain ⟨c_1, hf⟩ := gi_e hf
  refine va_iald hx hb hK hP 5 0 cM_at5 rfl c_1 dX5_bitsFor_2 ?_
  refine lv_topi (fun v_2 ev_2 => ?_)
  replace hf := nm_at ev_2 hf
  refine lv_istore (lv' := [(4, .int v_2), (0, .ref (A 0)), (1, .ref (A 5)), (2, .int p2), (3, .int p3)]) hx hb dX5_bitsFor_3 hl (by decide) rfl (fun ls hl => ?_)
  refine lv_iconst (v := 0) hx hb dX5_bitsFor_5 (by decide) ?_
  refine lv_istore (lv' := [(5, .int (0 : Int32)), (4, .int v_2), (0, .ref (A 0)), (1, .ref (A 5)), (2, .int p2), (3, .int p3)]) hx hb dX5_bitsFor_6 hl (by decide) rfl (fun ls hl => ?_)
  refine lv_iconst (v := 0) hx hb dX5_bitsFor_8 (by decide) ?_
  refine lv_istore (lv' := [(6, .int (0 : Int32)), (5, .int (0 : Int32)), (4, .int v_2), (0, .ref (A 0)), (1, .ref (A 5)), (2, .int p2), (3, .int p3)]) hx hb dX5_bitsFor_9 hl (by decide) rfl (fun ls hl => ?_)
  refine lp_ind (P := fun (q11 : Int32 × Int32 × St) => ∀ (H : Heap) (locs : List Loc) (ls : Array Slot), va_P D vwCl (cM cI A q11.2.2) H → va_D AA (cM cI A q11.2.2) → va_S AA s.heap H locs → lv_has ls 7 [(0, .ref (A 0)), (1, .ref (A 5)), (2, .int p2), (3, .int p3), (4, .int v_2), (5, .int q11.1), (6, .int q11.2.1)] → W p l e rm_X5_bitsFor_a5 s m args below meth c H locs 0 0 Q (F0 m 11 ls [])) hf ?_ H locs ls hP hD hS (lv_sub hl [3, 4, 5, 6, 2, 1, 0] rfl)
  clear hf hP hD hS hl
  intro nx11 ih11 q11 hf H locs ls hP hD hS hl
  refine lv_iload hx hb dX5_bitsFor_11 (lv_at hl 6 rfl) ?_
  refine lv_iload_n hx hb dX5_bitsFor_13 rfl (lv_at hl 3 rfl) ?_
  refine lv_icmp_ge (tgt := 49) hx hb dX5_bitsFor_14 (by decide) (fun c_3 => ?_) (fun c_3 => ?_)
  · replace hf := if_t c_3 hf
    refine lv_aload_n hx hb dX5_bitsFor_49 rfl (lv_at hl 1 rfl) ?_
    refine lv_iload_n hx hb dX5_bitsFor_50 rfl (lv_at hl 2 rfl) ?_
    refine lv_iload hx hb dX5_bitsFor_51 (lv_at hl 4 rfl) ?_
    obtain ⟨c_4, hf⟩ := gi_e hf
    refine va_iast hx hb hK hP hD hS 5 0 cM_at5 rfl c_4 dX5_bitsFor_53 (fun H locs hP hD hS => ?_)
    obtain ⟨h_5, eh_5, hf⟩ := nq_e hf
    rw [cM_su5, ← eh_5] at hP hD
    refine lv_iload hx hb dX5_bitsFor_54 (lv_at hl 5 rfl) ?_
    exact hend (q11.1, h_5) H locs _ _ hf hP hS dX5_bitsFor_56
  · replace hf := if_f c_3 hf
    refine lv_aload_n hx hb dX5_bitsFor_17 rfl (lv_at hl 1 rfl) ?_
    refine lv_iload_n hx hb dX5_bitsFor_18 rfl (lv_at hl 2 rfl) ?_
    refine lv_iload hx hb dX5_bitsFor_19 (lv_at hl 6 rfl) ?_
    obtain ⟨c_6, hf⟩ := gi_e hf
    refine va_iast hx hb hK hP hD hS 5 0 cM_at5 rfl c_6 dX5_bitsFor_21 (fun H locs hP hD hS => ?_)
    obtain ⟨h_7, eh_7, hf⟩ := nq_e hf
    rw [cM_su5, ← eh_7] at hP hD
    refine lv_iload hx hb dX5_bitsFor_22 (lv_at hl 5 rfl) ?_
    refine lv_aload_n hx hb dX5_bitsFor_24 rfl (lv_at hl 0 rfl) ?_
    refine lv_iload_n hx hb dX5_bitsFor_25 rfl (lv_at hl 2 rfl) ?_
    obtain ⟨a_8, ha_8, hf⟩ := bd_e hf
    refine Ct.callV (As := [.int p2]) (rest := [.int q11.1]) (st1 := [.int a_8.1, .int q11.1]) (c_X5_isSoBy l D cI A h_7 p2 a_8 ha_8) hx hb hml hown hts (cwV 1 hts gX5_bitsFor_X5_isSoBy rfl rfl rfl hd_X5_isSoBy ⟨Nat.le_of_ble_eq_true rfl, Nat.le_of_ble_eq_true rfl⟩) (va_recv hK hP (ci := 5) (q0 := 0) rfl cM_at0) (Ln.id rfl) hA hK hP hD hS rfl hl.1 rfl rfl (Nat.le_of_ble_eq_true rfl) dX5_bitsFor_26 (fun H locs hP hD hS => ?_)
    replace hP : va_P D vwCl (cM cI A a_8.2) H := hP
    replace hD : va_D AA (cM cI A a_8.2) := hD
    refine lv_if_eq (tgt := 39) hx hb dX5_bitsFor_29 (by decide) (fun c_9 => ?_) (fun c_9 => ?_)
    · replace hf := if_t c_9 hf
      refine lv_iconst (v := 0) hx hb dX5_bitsFor_39 (by decide) ?_
      refine lv_ior hx hb dX5_bitsFor_40 ?_
      refine lv_topi (fun v_10 ev_10 => ?_)
      replace hf := nm_at ev_10 hf
      refine lv_istore (lv' := [(5, .int v_10), (0, .ref (A 0)), (1, .ref (A 5)), (2, .int p2), (3, .int p3), (4, .int v_2), (6, .int q11.2.1)]) hx hb dX5_bitsFor_41 hl (by decide) rfl (fun ls hl => ?_)
      obtain ⟨v_11, ev_11, hf⟩ := nq_e hf
      refine lv_iinc (v := v_11) (lv' := [(6, .int v_11), (5, .int v_10), (0, .ref (A 0)), (1, .ref (A 5)), (2, .int p2), (3, .int p3), (4, .int v_2)]) hx hb dX5_bitsFor_43 hl (k := 6) rfl (by rw [ev_11]; rfl) (by decide) rfl (fun ls hl => ?_)
      refine lv_goto (tgt := 11) hx hb dX5_bitsFor_46 (by decide) ?_
      exact ih11 (v_10, v_11, a_8.2) hf H locs ls hP hD hS (lv_sub hl [2, 3, 4, 5, 6, 1, 0] rfl)
    · replace hf := if_f c_9 hf
      refine lv_iconst (v := 1) hx hb dX5_bitsFor_32 (by decide) ?_
      refine lv_iload hx hb dX5_bitsFor_33 (lv_at hl 6 rfl) ?_
      refine lv_ishl hx hb dX5_bitsFor_35 ?_
      refine lv_goto (tgt := 40) hx hb dX5_bitsFor_36 (by decide) ?_
      refine lv_ior hx hb dX5_bitsFor_40 ?_
      refine lv_topi (fun v_12 ev_12 => ?_)
      replace hf := nm_at ev_12 hf
      refine lv_istore (lv' := [(5, .int v_12), (0, .ref (A 0)), (1, .ref (A 5)), (2, .int p2), (3, .int p3), (4, .int v_2), (6, .int q11.2.1)]) hx hb dX5_bitsFor_41 hl (by decide) rfl (fun ls hl => ?_)
      obtain ⟨v_13, ev_13, hf⟩ := nq_e hf
      refine lv_iinc (v := v_13) (lv' := [(6, .int v_13), (5, .int v_12), (0, .ref (A 0)), (1, .ref (A 5)), (2, .int p2), (3, .int p3), (4, .int v_2)]) hx hb dX5_bitsFor_43 hl (k := 6) rfl (by rw [ev_13]; rfl) (by decide) rfl (fun ls hl => ?_)
      refine lv_goto (tgt := 11) hx hb dX5_bitsFor_46 (by decide) ?_
      exact ih11 (v_12, v_13, a_8.2) hf H locs ls hP hD hS (lv_sub hl [2, 3, 4, 5, 6, 1, 0] rfl)

def rm_X5_bitsFor_a6 : Room := { frames := 5, cells := 0, slots := 0, locals := 111 }
set_option maxRecDepth 100000 in
set_option maxHeartbeats 4000000 in
theorem c_X5_bitsFor_a6 (l : Launch) (D : va_G) (cI : ClassId) (A : Nat → Nat) (M : St) (p2 : Int32) (p3 : Int32) (r : Int32 × St) (hf : f_X5_bitsFor_a6 M p2 p3 = some r) : Ct l yX5_bitsFor wsX5_bitsFor rm_X5_bitsFor_a6 D cI (cM cI A M) (cM cI A r.2) [.ref (A 0), .ref (A 6), .int p2, .int p3] (some (.int r.1)) := by
  unfold f_X5_bitsFor_a6 at hf
  refine Ct.ofI (cc := cX5_bitsFor) (maxL := 7) (by decide +kernel) rfl (Nat.le_of_ble_eq_true rfl) ?_
  intro p e s m args below meth c AA Q H locs ls hx hb hml hown hts hA hK hP hD hS hl hend0
  have hend : ∀ (r1 : Int32 × St) (H : Heap) (locs : List Loc) (pc : Nat) (ls : Array Slot), some r1 = some r → va_P D vwCl (cM cI A r1.2) H → va_S AA s.heap H locs → decode cX5_bitsFor pc = .ok (.ireturn, 1) → W p l e rm_X5_bitsFor_a6 s m args below meth c H locs 0 0 Q (F0 m pc ls [.int r1.1]) := by
    intro r1 H locs pc ls e1 hP hS hd; cases e1; exact hend0 H locs pc ls hP hS hd
  clear hend0
  replace hl : lv_has ls 7 [(0, .ref (A 0)), (1, .ref (A 6)), (2, .int p2), (3, .int p3)] := hl
  refine lv_aload_n hx hb dX5_bitsFor_0 rfl (lv_at hl 1 rfl) ?_
  refine lv_iload_n hx hb dX5_bitsFor_1 rfl (lv_at hl 2 rfl) ?_
  obtain ⟨c_1, hf⟩ := gi_e hf
  refine va_iald hx hb hK hP 6 0 cM_at6 rfl c_1 dX5_bitsFor_2 ?_
  refine lv_topi (fun v_2 ev_2 => ?_)
  replace hf := nm_at ev_2 hf
  refine lv_istore (lv' := [(4, .int v_2), (0, .ref (A 0)), (1, .ref (A 6)), (2, .int p2), (3, .int p3)]) hx hb dX5_bitsFor_3 hl (by decide) rfl (fun ls hl => ?_)
  refine lv_iconst (v := 0) hx hb dX5_bitsFor_5 (by decide) ?_
  refine lv_istore (lv' := [(5, .int (0 : Int32)), (4, .int v_2), (0, .ref (A 0)), (1, .ref (A 6)), (2, .int p2), (3, .int p3)]) hx hb dX5_bitsFor_6 hl (by decide) rfl (fun ls hl => ?_)
  refine lv_iconst (v := 0) hx hb dX5_bitsFor_8 (by decide) ?_
  refine lv_istore (lv' := [(6, .int (0 : Int32)), (5, .int (0 : Int32)), (4, .int v_2), (0, .ref (A 0)), (1, .ref (A 6)), (2, .int p2), (3, .int p3)]) hx hb dX5_bitsFor_9 hl (by decide) rfl (fun ls hl => ?_)
  refine lp_ind (P := fun (q11 : Int32 × Int32 × St) => ∀ (H : Heap) (locs : List Loc) (ls : Array Slot), va_P D vwCl (cM cI A q11.2.2) H → va_D AA (cM cI A q11.2.2) → va_S AA s.heap H locs → lv_has ls 7 [(0, .ref (A 0)), (1, .ref (A 6)), (2, .int p2), (3, .int p3), (4, .int v_2), (5, .int q11.1), (6, .int q11.2.1)] → W p l e rm_X5_bitsFor_a6 s m args below meth c H locs 0 0 Q (F0 m 11 ls [])) hf ?_ H locs ls hP hD hS (lv_sub hl [3, 4, 5, 6, 2, 1, 0] rfl)
  clear hf hP hD hS hl
  intro nx11 ih11 q11 hf H locs ls hP hD hS hl
  refine lv_iload hx hb dX5_bitsFor_11 (lv_at hl 6 rfl) ?_
  refine lv_iload_n hx hb dX5_bitsFor_13 rfl (lv_at hl 3 rfl) ?_
  refine lv_icmp_ge (tgt := 49) hx hb dX5_bitsFor_14 (by decide) (fun c_3 => ?_) (fun c_3 => ?_)
  · replace hf := if_t c_3 hf
    refine lv_aload_n hx hb dX5_bitsFor_49 rfl (lv_at hl 1 rfl) ?_
    refine lv_iload_n hx hb dX5_bitsFor_50 rfl (lv_at hl 2 rfl) ?_
    refine lv_iload hx hb dX5_bitsFor_51 (lv_at hl 4 rfl) ?_
    obtain ⟨c_4, hf⟩ := gi_e hf
    refine va_iast hx hb hK hP hD hS 6 0 cM_at6 rfl c_4 dX5_bitsFor_53 (fun H locs hP hD hS => ?_)
    obtain ⟨h_5, eh_5, hf⟩ := nq_e hf
    rw [cM_su6, ← eh_5] at hP hD
    refine lv_iload hx hb dX5_bitsFor_54 (lv_at hl 5 rfl) ?_
    exact hend (q11.1, h_5) H locs _ _ hf hP hS dX5_bitsFor_56
  · replace hf := if_f c_3 hf
    refine lv_aload_n hx hb dX5_bitsFor_17 rfl (lv_at hl 1 rfl) ?_
    refine lv_iload_n hx hb dX5_bitsFor_18 rfl (lv_at hl 2 rfl) ?_
    refine lv_iload hx hb dX5_bitsFor_19 (lv_at hl 6 rfl) ?_
    obtain ⟨c_6, hf⟩ := gi_e hf
    refine va_iast hx hb hK hP hD hS 6 0 cM_at6 rfl c_6 dX5_bitsFor_21 (fun H locs hP hD hS => ?_)
    obtain ⟨h_7, eh_7, hf⟩ := nq_e hf
    rw [cM_su6, ← eh_7] at hP hD
    refine lv_iload hx hb dX5_bitsFor_22 (lv_at hl 5 rfl) ?_
    refine lv_aload_n hx hb dX5_bitsFor_24 rfl (lv_at hl 0 rfl) ?_
    refine lv_iload_n hx hb dX5_bitsFor_25 rfl (lv_at hl 2 rfl) ?_
    obtain ⟨a_8, ha_8, hf⟩ := bd_e hf
    refine Ct.callV (As := [.int p2]) (rest := [.int q11.1]) (st1 := [.int a_8.1, .int q11.1]) (c_X5_isSoBy l D cI A h_7 p2 a_8 ha_8) hx hb hml hown hts (cwV 1 hts gX5_bitsFor_X5_isSoBy rfl rfl rfl hd_X5_isSoBy ⟨Nat.le_of_ble_eq_true rfl, Nat.le_of_ble_eq_true rfl⟩) (va_recv hK hP (ci := 5) (q0 := 0) rfl cM_at0) (Ln.id rfl) hA hK hP hD hS rfl hl.1 rfl rfl (Nat.le_of_ble_eq_true rfl) dX5_bitsFor_26 (fun H locs hP hD hS => ?_)
    replace hP : va_P D vwCl (cM cI A a_8.2) H := hP
    replace hD : va_D AA (cM cI A a_8.2) := hD
    refine lv_if_eq (tgt := 39) hx hb dX5_bitsFor_29 (by decide) (fun c_9 => ?_) (fun c_9 => ?_)
    · replace hf := if_t c_9 hf
      refine lv_iconst (v := 0) hx hb dX5_bitsFor_39 (by decide) ?_
      refine lv_ior hx hb dX5_bitsFor_40 ?_
      refine lv_topi (fun v_10 ev_10 => ?_)
      replace hf := nm_at ev_10 hf
      refine lv_istore (lv' := [(5, .int v_10), (0, .ref (A 0)), (1, .ref (A 6)), (2, .int p2), (3, .int p3), (4, .int v_2), (6, .int q11.2.1)]) hx hb dX5_bitsFor_41 hl (by decide) rfl (fun ls hl => ?_)
      obtain ⟨v_11, ev_11, hf⟩ := nq_e hf
      refine lv_iinc (v := v_11) (lv' := [(6, .int v_11), (5, .int v_10), (0, .ref (A 0)), (1, .ref (A 6)), (2, .int p2), (3, .int p3), (4, .int v_2)]) hx hb dX5_bitsFor_43 hl (k := 6) rfl (by rw [ev_11]; rfl) (by decide) rfl (fun ls hl => ?_)
      refine lv_goto (tgt := 11) hx hb dX5_bitsFor_46 (by decide) ?_
      exact ih11 (v_10, v_11, a_8.2) hf H locs ls hP hD hS (lv_sub hl [2, 3, 4, 5, 6, 1, 0] rfl)
    · replace hf := if_f c_9 hf
      refine lv_iconst (v := 1) hx hb dX5_bitsFor_32 (by decide) ?_
      refine lv_iload hx hb dX5_bitsFor_33 (lv_at hl 6 rfl) ?_
      refine lv_ishl hx hb dX5_bitsFor_35 ?_
      refine lv_goto (tgt := 40) hx hb dX5_bitsFor_36 (by decide) ?_
      refine lv_ior hx hb dX5_bitsFor_40 ?_
      refine lv_topi (fun v_12 ev_12 => ?_)
      replace hf := nm_at ev_12 hf
      refine lv_istore (lv' := [(5, .int v_12), (0, .ref (A 0)), (1, .ref (A 6)), (2, .int p2), (3, .int p3), (4, .int v_2), (6, .int q11.2.1)]) hx hb dX5_bitsFor_41 hl (by decide) rfl (fun ls hl => ?_)
      obtain ⟨v_13, ev_13, hf⟩ := nq_e hf
      refine lv_iinc (v := v_13) (lv' := [(6, .int v_13), (5, .int v_12), (0, .ref (A 0)), (1, .ref (A 6)), (2, .int p2), (3, .int p3), (4, .int v_2)]) hx hb dX5_bitsFor_43 hl (k := 6) rfl (by rw [ev_13]; rfl) (by decide) rfl (fun ls hl => ?_)
      refine lv_goto (tgt := 11) hx hb dX5_bitsFor_46 (by decide) ?_
      exact ih11 (v_12, v_13, a_8.2) hf H locs ls hP hD hS (lv_sub hl [2, 3, 4, 5, 6, 1, 0] rfl)

def rm_X5_whatIs : Room := { frames := 6, cells := 0, slots := 0, locals := 137 }
theorem hd_X5_whatIs : yX5_whatIs.cls = RX5 ∧ yX5_whatIs.cls ≠ "java/lang/invoke/MethodHandle" ∧ yX5_whatIs.cls ≠ "java/lang/invoke/VarHandle" ∧ (parseMethodDescriptor yX5_whatIs.desc).map (fun d => d.parameters.length) = some 2 := by decide +kernel
set_option maxRecDepth 100000 in
set_option maxHeartbeats 4000000 in
theorem c_X5_whatIs (l : Launch) (D : va_G) (cI : ClassId) (A : Nat → Nat) (M : St) (p1 : Int32) (p2 : Int32) (r : Int32 × St) (hf : f_X5_whatIs M p1 p2 = some r) : Ct l yX5_whatIs wsX5_whatIs rm_X5_whatIs D cI (cM cI A M) (cM cI A r.2) [.ref (A 0), .int p1, .int p2] (some (.int r.1)) := by
  unfold f_X5_whatIs at hf
  refine Ct.ofI (cc := cX5_whatIs) (maxL := 4) (by decide +kernel) rfl (Nat.le_of_ble_eq_true rfl) ?_
  intro p e s m args below meth c AA Q H locs ls hx hb hml hown hts hA hK hP hD hS hl hend0
  have hend : ∀ (r1 : Int32 × St) (H : Heap) (locs : List Loc) (pc : Nat) (ls : Array Slot), some r1 = some r → va_P D vwCl (cM cI A r1.2) H → va_S AA s.heap H locs → decode cX5_whatIs pc = .ok (.ireturn, 1) → W p l e rm_X5_whatIs s m args below meth c H locs 0 0 Q (F0 m pc ls [.int r1.1]) := by
    intro r1 H locs pc ls e1 hP hS hd; cases e1; exact hend0 H locs pc ls hP hS hd
  clear hend0
  have hw5 : ∀ w ∈ wsX50, w ∈ wsX5_whatIs := by decide +kernel
  have k22 := hts (.fieldLink RX5 22 "AnchorsForConfessionModel" "kind" "[I") (by decide +kernel)
  have k25 := hts (.fieldLink RX5 25 "AnchorsForConfessionModel" "figure" "[I") (by decide +kernel)
  replace hl : lv_has ls 4 [(0, .ref (A 0)), (1, .int p1), (2, .int p2)] := hl
  refine lv_aload_n hx hb dX5_whatIs_0 rfl (lv_at hl 0 rfl) ?_
  refine lv_iload_n hx hb dX5_whatIs_1 rfl (lv_at hl 1 rfl) ?_
  obtain ⟨a_1, ha_1, hf⟩ := bd_e hf
  refine Ct.callV (As := [.int p1]) (rest := []) (st1 := [.int a_1]) (c_X5_isMan l D cI A M p1 a_1 ha_1) hx hb hml hown hts (cwV 1 hts gX5_whatIs_X5_isMan rfl rfl rfl hd_X5_isMan ⟨Nat.le_of_ble_eq_true rfl, Nat.le_of_ble_eq_true rfl⟩) (va_recv hK hP (ci := 5) (q0 := 0) rfl cM_at0) (Ln.id rfl) hA hK hP hD hS rfl hl.1 rfl rfl (Nat.le_of_ble_eq_true rfl) dX5_whatIs_2 (fun H locs hP hD hS => ?_)
  refine lv_if_ne (tgt := 12) hx hb dX5_whatIs_5 (by decide) (fun c_2 => ?_) (fun c_2 => ?_)
  · replace hf := if_f c_2 hf
    refine lv_iload_n hx hb dX5_whatIs_12 rfl (lv_at hl 2 rfl) ?_
    refine lv_iconst (v := 0) hx hb dX5_whatIs_13 (by decide) ?_
    refine lv_iconst (v := 1) hx hb dX5_whatIs_14 (by decide) ?_
    obtain ⟨a_3, ha_3, hf⟩ := bd_e hf
    refine Ct.callS (As := [.int p2, .int (0 : Int32), .int (1 : Int32)]) (rest := []) (st1 := [.int a_3]) (c_X5_isIn l D cI  p2 (0 : Int32) (1 : Int32) a_3 ha_3) hx hb hml hown hts (va_cwS 3 hts gX5_whatIs_X5_isIn rfl rfl rfl hd_X5_isIn ⟨Nat.le_of_ble_eq_true rfl, Nat.le_of_ble_eq_true rfl⟩) Ln.nil hA hK hP hD hS rfl hl.1 rfl rfl (Nat.le_of_ble_eq_true rfl) dX5_whatIs_15 (fun H locs hP hD hS => ?_)
    refine lv_if_ne (tgt := 26) hx hb dX5_whatIs_18 (by decide) (fun c_4 => ?_) (fun c_4 => ?_)
    · replace hf := if_f c_4 hf
      refine lv_iconst (v := 0) hx hb dX5_whatIs_26 (by decide) ?_
      refine lv_istore_n (lv' := [(3, .int (0 : Int32)), (0, .ref (A 0)), (1, .int p1), (2, .int p2)]) hx hb dX5_whatIs_27 rfl hl (by decide) rfl (fun ls hl => ?_)
      refine lv_iload_n hx hb dX5_whatIs_28 rfl (lv_at hl 0 rfl) ?_
      refine lv_if_eq (tgt := 38) hx hb dX5_whatIs_29 (by decide) (fun _ => ?_) (fun c0 => absurd c0 (by decide))
      refine lv_iload_n hx hb dX5_whatIs_38 rfl (lv_at hl 3 rfl) ?_
      refine lv_if_ne (tgt := 56) hx hb dX5_whatIs_39 (by decide) (fun c_5 => ?_) (fun c_5 => ?_)
      · replace hf := if_f c_5 hf
        refine lv_aload_n hx hb dX5_whatIs_56 rfl (lv_at hl 1 rfl) ?_
        refine lv_aload_n hx hb dX5_whatIs_57 rfl (lv_at hl 1 rfl) ?_
        refine va_get (D := D) (ci := 5) (v := .ref (A 6)) (C := RX5) (T := TX5) (N := 27) hx hb hts hw5 hown hK hP 0 cM_at0 rfl 5 (by decide) k25 (fun _ h9 => h9) rfl dX5_whatIs_58 ?_
        refine lv_iload_n hx hb dX5_whatIs_61 rfl (lv_at hl 2 rfl) ?_
        refine lv_bipush (v := 10) hx hb dX5_whatIs_62 (by decide +kernel) ?_
        obtain ⟨a_6, ha_6, hf⟩ := bd_e hf
        refine Ct.callV (As := [.ref (A 6), .int p1, .int (10 : Int32)]) (rest := []) (st1 := [.int a_6.1]) (c_X5_bitsFor_a6 l D cI A M p1 (10 : Int32) a_6 ha_6) hx hb hml hown hts (cwV 3 hts gX5_whatIs_X5_bitsFor rfl rfl rfl hd_X5_bitsFor ⟨Nat.le_of_ble_eq_true rfl, Nat.le_of_ble_eq_true rfl⟩) (va_recv hK hP (ci := 5) (q0 := 0) rfl cM_at0) (Ln.id rfl) hA hK hP hD hS rfl hl.1 rfl rfl (Nat.le_of_ble_eq_true rfl) dX5_whatIs_64 (fun H locs hP hD hS => ?_)
        replace hP : va_P D vwCl (cM cI A a_6.2) H := hP
        replace hD : va_D AA (cM cI A a_6.2) := hD
        exact hend (a_6.1, a_6.2) H locs _ _ hf hP hS dX5_whatIs_67
      · replace hf := if_t c_5 hf
        refine lv_aload_n hx hb dX5_whatIs_42 rfl (lv_at hl 1 rfl) ?_
        refine lv_aload_n hx hb dX5_whatIs_43 rfl (lv_at hl 1 rfl) ?_
        refine va_get (D := D) (ci := 5) (v := .ref (A 5)) (C := RX5) (T := TX5) (N := 27) hx hb hts hw5 hown hK hP 0 cM_at0 rfl 4 (by decide) k22 (fun _ h9 => h9) rfl dX5_whatIs_44 ?_
        refine lv_iload_n hx hb dX5_whatIs_47 rfl (lv_at hl 2 rfl) ?_
        refine lv_bipush (v := 6) hx hb dX5_whatIs_48 (by decide +kernel) ?_
        obtain ⟨a_7, ha_7, hf⟩ := bd_e hf
        refine Ct.callV (As := [.ref (A 5), .int p1, .int (6 : Int32)]) (rest := []) (st1 := [.int a_7.1]) (c_X5_bitsFor_a5 l D cI A M p1 (6 : Int32) a_7 ha_7) hx hb hml hown hts (cwV 3 hts gX5_whatIs_X5_bitsFor rfl rfl rfl hd_X5_bitsFor ⟨Nat.le_of_ble_eq_true rfl, Nat.le_of_ble_eq_true rfl⟩) (va_recv hK hP (ci := 5) (q0 := 0) rfl cM_at0) (Ln.id rfl) hA hK hP hD hS rfl hl.1 rfl rfl (Nat.le_of_ble_eq_true rfl) dX5_whatIs_50 (fun H locs hP hD hS => ?_)
        replace hP : va_P D vwCl (cM cI A a_7.2) H := hP
        replace hD : va_D AA (cM cI A a_7.2) := hD
        refine lv_goto (tgt := 67) hx hb dX5_whatIs_53 (by decide) ?_
        exact hend (a_7.1, a_7.2) H locs _ _ hf hP hS dX5_whatIs_67
    · replace hf := if_t c_4 hf
      refine lv_bipush (v := -2) hx hb dX5_whatIs_21 (by decide +kernel) ?_
      refine lv_goto (tgt := 27) hx hb dX5_whatIs_23 (by decide) ?_
      refine lv_istore_n (lv' := [(3, .int (-2 : Int32)), (0, .ref (A 0)), (1, .int p1), (2, .int p2)]) hx hb dX5_whatIs_27 rfl hl (by decide) rfl (fun ls hl => ?_)
      refine lv_iload_n hx hb dX5_whatIs_28 rfl (lv_at hl 0 rfl) ?_
      refine lv_if_eq (tgt := 38) hx hb dX5_whatIs_29 (by decide) (fun c0 => absurd c0 (by decide)) (fun _ => ?_)
      refine lv_aload_n hx hb dX5_whatIs_32 rfl (lv_at hl 1 rfl) ?_
      refine lv_iload_n hx hb dX5_whatIs_33 rfl (lv_at hl 0 rfl) ?_
      obtain ⟨a_8, ha_8, hf⟩ := bd_e hf
      refine Ct.callV (As := [.int (-2 : Int32)]) (rest := []) (st1 := [.int a_8.1]) (c_X5_no l D cI A M (-2 : Int32) a_8 ha_8) hx hb hml hown hts (cwV 1 hts gX5_whatIs_X5_no rfl rfl rfl hd_X5_no ⟨Nat.le_of_ble_eq_true rfl, Nat.le_of_ble_eq_true rfl⟩) (va_recv hK hP (ci := 5) (q0 := 0) rfl cM_at0) (Ln.id rfl) hA hK hP hD hS rfl hl.1 rfl rfl (Nat.le_of_ble_eq_true rfl) dX5_whatIs_34 (fun H locs hP hD hS => ?_)
      replace hP : va_P D vwCl (cM cI A a_8.2) H := hP
      replace hD : va_D AA (cM cI A a_8.2) := hD
      exact hend (a_8.1, a_8.2) H locs _ _ hf hP hS dX5_whatIs_37
  · replace hf := if_t c_2 hf
    refine lv_iconst (v := -1) hx hb dX5_whatIs_8 (by decide) ?_
    refine lv_goto (tgt := 27) hx hb dX5_whatIs_9 (by decide) ?_
    refine lv_istore_n (lv' := [(3, .int (-1 : Int32)), (0, .ref (A 0)), (1, .int p1), (2, .int p2)]) hx hb dX5_whatIs_27 rfl hl (by decide) rfl (fun ls hl => ?_)
    refine lv_iload_n hx hb dX5_whatIs_28 rfl (lv_at hl 0 rfl) ?_
    refine lv_if_eq (tgt := 38) hx hb dX5_whatIs_29 (by decide) (fun c0 => absurd c0 (by decide)) (fun _ => ?_)
    refine lv_aload_n hx hb dX5_whatIs_32 rfl (lv_at hl 1 rfl) ?_
    refine lv_iload_n hx hb dX5_whatIs_33 rfl (lv_at hl 0 rfl) ?_
    obtain ⟨a_9, ha_9, hf⟩ := bd_e hf
    refine Ct.callV (As := [.int (-1 : Int32)]) (rest := []) (st1 := [.int a_9.1]) (c_X5_no l D cI A M (-1 : Int32) a_9 ha_9) hx hb hml hown hts (cwV 1 hts gX5_whatIs_X5_no rfl rfl rfl hd_X5_no ⟨Nat.le_of_ble_eq_true rfl, Nat.le_of_ble_eq_true rfl⟩) (va_recv hK hP (ci := 5) (q0 := 0) rfl cM_at0) (Ln.id rfl) hA hK hP hD hS rfl hl.1 rfl rfl (Nat.le_of_ble_eq_true rfl) dX5_whatIs_34 (fun H locs hP hD hS => ?_)
    replace hP : va_P D vwCl (cM cI A a_9.2) H := hP
    replace hD : va_D AA (cM cI A a_9.2) := hD
    exact hend (a_9.1, a_9.2) H locs _ _ hf hP hS dX5_whatIs_37

def rm_X5_row : Room := { frames := 1, cells := 0, slots := 0, locals := 22 }
theorem hd_X5_row : yX5_row.cls = RX5 ∧ yX5_row.cls ≠ "java/lang/invoke/MethodHandle" ∧ yX5_row.cls ≠ "java/lang/invoke/VarHandle" ∧ (parseMethodDescriptor yX5_row.desc).map (fun d => d.parameters.length) = some 1 := by decide +kernel
set_option maxRecDepth 100000 in
set_option maxHeartbeats 4000000 in
theorem c_X5_row (l : Launch) (D : va_G) (cI : ClassId) (A : Nat → Nat) (M : St) (p1 : Int32) (r : Int32 × St) (hf : f_X5_row M p1 = some r) : Ct l yX5_row wsX5_row rm_X5_row D cI (cM cI A M) (cM cI A r.2) [.ref (A 0), .int p1] (some (.int r.1)) := by
  unfold f_X5_row at hf
  refine Ct.ofI (cc := cX5_row) (maxL := 3) (by decide +kernel) rfl (Nat.le_of_ble_eq_true rfl) ?_
  intro p e s m args below meth c AA Q H locs ls hx hb hml hown hts hA hK hP hD hS hl hend0
  have hend : ∀ (r1 : Int32 × St) (H : Heap) (locs : List Loc) (pc : Nat) (ls : Array Slot), some r1 = some r → va_P D vwCl (cM cI A r1.2) H → va_S AA s.heap H locs → decode cX5_row pc = .ok (.ireturn, 1) → W p l e rm_X5_row s m args below meth c H locs 0 0 Q (F0 m pc ls [.int r1.1]) := by
    intro r1 H locs pc ls e1 hP hS hd; cases e1; exact hend0 H locs pc ls hP hS hd
  clear hend0
  have hw5 : ∀ w ∈ wsX50, w ∈ wsX5_row := by decide +kernel
  have k55 := hts (.fieldLink RX5 55 "AnchorsForConfessionModel" "row" "[I") (by decide +kernel)
  have k273 := hts (.fieldLink RX5 273 "AnchorsForConfessionModel" "rowMany" "I") (by decide +kernel)
  replace hl : lv_has ls 3 [(0, .ref (A 0)), (1, .int p1)] := hl
  refine lv_iload_n hx hb dX5_row_0 rfl (lv_at hl 1 rfl) ?_
  refine lv_iconst (v := 0) hx hb dX5_row_1 (by decide) ?_
  refine lv_bipush (v := 99) hx hb dX5_row_2 (by decide +kernel) ?_
  obtain ⟨a_1, ha_1, hf⟩ := bd_e hf
  refine Ct.callS (As := [.int p1, .int (0 : Int32), .int (99 : Int32)]) (rest := []) (st1 := [.int a_1]) (c_X5_bound l D cI  p1 (0 : Int32) (99 : Int32) a_1 ha_1) hx hb hml hown hts (va_cwS 3 hts gX5_row_X5_bound rfl rfl rfl hd_X5_bound ⟨Nat.le_of_ble_eq_true rfl, Nat.le_of_ble_eq_true rfl⟩) Ln.nil hA hK hP hD hS rfl hl.1 rfl rfl (Nat.le_of_ble_eq_true rfl) dX5_row_4 (fun H locs hP hD hS => ?_)
  refine lv_istore_n (lv' := [(2, .int a_1), (0, .ref (A 0)), (1, .int p1)]) hx hb dX5_row_7 rfl hl (by decide) rfl (fun ls hl => ?_)
  refine lv_iload_n hx hb dX5_row_8 rfl (lv_at hl 0 rfl) ?_
  refine lv_if_ne (tgt := 24) hx hb dX5_row_9 (by decide) (fun c_2 => ?_) (fun c_2 => ?_)
  · replace hf := if_f c_2 hf
    refine lv_iload_n hx hb dX5_row_24 rfl (lv_at hl 0 rfl) ?_
    refine lv_if_eq (tgt := 34) hx hb dX5_row_25 (by decide) (fun c_3 => ?_) (fun c_3 => ?_)
    · replace hf := if_t c_3 hf
      refine lv_aload_n hx hb dX5_row_34 rfl (lv_at hl 1 rfl) ?_
      refine va_get (D := D) (ci := 5) (v := .ref (A 16)) (C := RX5) (T := TX5) (N := 27) hx hb hts hw5 hown hK hP 0 cM_at0 rfl 25 (by decide) k55 (fun _ h9 => h9) rfl dX5_row_35 ?_
      refine lv_aload_n hx hb dX5_row_38 rfl (lv_at hl 1 rfl) ?_
      refine va_get (D := D) (ci := 5) (v := .int (M 16 10)) (C := RX5) (T := TX5) (N := 27) hx hb hts hw5 hown hK hP 0 cM_at0 rfl 26 (by decide) k273 (fun _ h9 => h9) rfl dX5_row_39 ?_
      refine lv_iload_n hx hb dX5_row_42 rfl (lv_at hl 2 rfl) ?_
      obtain ⟨c_4, hf⟩ := gi_e hf
      refine va_iast hx hb hK hP hD hS 16 0 cM_at16 rfl c_4 dX5_row_43 (fun H locs hP hD hS => ?_)
      obtain ⟨h_5, eh_5, hf⟩ := nq_e hf
      rw [cM_su16, ← eh_5] at hP hD
      refine lv_aload_n hx hb dX5_row_44 rfl (lv_at hl 1 rfl) ?_
      refine lv_dup hx hb dX5_row_45 rfl ?_
      refine va_get (D := D) (ci := 5) (v := .int (h_5 16 10)) (C := RX5) (T := TX5) (N := 27) hx hb hts hw5 hown hK hP 0 cM_at0 rfl 26 (by decide) k273 (fun _ h9 => h9) rfl dX5_row_46 ?_
      refine lv_iconst (v := 1) hx hb dX5_row_49 (by decide) ?_
      refine lv_iadd hx hb dX5_row_50 ?_
      refine va_put (D := D) (ci := 5) (v := .int ((h_5 16 10) + (1 : Int32))) (ty := .int) (C := RX5) (T := TX5) (N := 27) hx hb hts hw5 tyX5 tyX5_ok nmX5 hown hK hP hD hS 0 cM_at0 rfl 26 (by decide) k273 (fun _ h9 => h9) rfl (tyX5_ok 26 (by decide)) rfl rfl (Nat.le_of_ble_eq_true rfl) dX5_row_51 (fun H locs hP hD hS => ?_)
      obtain ⟨h_6, eh_6, hf⟩ := nq_e hf
      rw [cM_sc0_26, ← eh_6] at hP hD
      refine lv_aload_n hx hb dX5_row_54 rfl (lv_at hl 1 rfl) ?_
      refine va_get (D := D) (ci := 5) (v := .int (h_6 16 10)) (C := RX5) (T := TX5) (N := 27) hx hb hts hw5 hown hK hP 0 cM_at0 rfl 26 (by decide) k273 (fun _ h9 => h9) rfl dX5_row_55 ?_
      exact hend ((h_6 16 10), h_6) H locs _ _ hf hP hS dX5_row_58
    · replace hf := if_f c_3 hf
      refine lv_aload_n hx hb dX5_row_28 rfl (lv_at hl 1 rfl) ?_
      refine lv_iload_n hx hb dX5_row_29 rfl (lv_at hl 0 rfl) ?_
      obtain ⟨a_7, ha_7, hf⟩ := bd_e hf
      refine Ct.callV (As := [.int a_1]) (rest := []) (st1 := [.int a_7.1]) (c_X5_no l D cI A M a_1 a_7 ha_7) hx hb hml hown hts (cwV 1 hts gX5_row_X5_no rfl rfl rfl hd_X5_no ⟨Nat.le_of_ble_eq_true rfl, Nat.le_of_ble_eq_true rfl⟩) (va_recv hK hP (ci := 5) (q0 := 0) rfl cM_at0) (Ln.id rfl) hA hK hP hD hS rfl hl.1 rfl rfl (Nat.le_of_ble_eq_true rfl) dX5_row_30 (fun H locs hP hD hS => ?_)
      replace hP : va_P D vwCl (cM cI A a_7.2) H := hP
      replace hD : va_D AA (cM cI A a_7.2) := hD
      exact hend (a_7.1, a_7.2) H locs _ _ hf hP hS dX5_row_33
  · replace hf := if_t c_2 hf
    refine lv_aload_n hx hb dX5_row_12 rfl (lv_at hl 1 rfl) ?_
    refine va_get (D := D) (ci := 5) (v := .int (M 16 10)) (C := RX5) (T := TX5) (N := 27) hx hb hts hw5 hown hK hP 0 cM_at0 rfl 26 (by decide) k273 (fun _ h9 => h9) rfl dX5_row_13 ?_
    refine lv_bipush (v := 16) hx hb dX5_row_16 (by decide +kernel) ?_
    refine lv_icmp_ne (tgt := 24) hx hb dX5_row_18 (by decide) (fun c_8 => ?_) (fun c_8 => ?_)
    · replace hf := if_f c_8 hf
      refine lv_iload_n hx hb dX5_row_24 rfl (lv_at hl 0 rfl) ?_
      refine lv_if_eq (tgt := 34) hx hb dX5_row_25 (by decide) (fun c_9 => ?_) (fun c_9 => ?_)
      · replace hf := if_t c_9 hf
        refine lv_aload_n hx hb dX5_row_34 rfl (lv_at hl 1 rfl) ?_
        refine va_get (D := D) (ci := 5) (v := .ref (A 16)) (C := RX5) (T := TX5) (N := 27) hx hb hts hw5 hown hK hP 0 cM_at0 rfl 25 (by decide) k55 (fun _ h9 => h9) rfl dX5_row_35 ?_
        refine lv_aload_n hx hb dX5_row_38 rfl (lv_at hl 1 rfl) ?_
        refine va_get (D := D) (ci := 5) (v := .int (M 16 10)) (C := RX5) (T := TX5) (N := 27) hx hb hts hw5 hown hK hP 0 cM_at0 rfl 26 (by decide) k273 (fun _ h9 => h9) rfl dX5_row_39 ?_
        refine lv_iload_n hx hb dX5_row_42 rfl (lv_at hl 2 rfl) ?_
        obtain ⟨c_10, hf⟩ := gi_e hf
        refine va_iast hx hb hK hP hD hS 16 0 cM_at16 rfl c_10 dX5_row_43 (fun H locs hP hD hS => ?_)
        obtain ⟨h_11, eh_11, hf⟩ := nq_e hf
        rw [cM_su16, ← eh_11] at hP hD
        refine lv_aload_n hx hb dX5_row_44 rfl (lv_at hl 1 rfl) ?_
        refine lv_dup hx hb dX5_row_45 rfl ?_
        refine va_get (D := D) (ci := 5) (v := .int (h_11 16 10)) (C := RX5) (T := TX5) (N := 27) hx hb hts hw5 hown hK hP 0 cM_at0 rfl 26 (by decide) k273 (fun _ h9 => h9) rfl dX5_row_46 ?_
        refine lv_iconst (v := 1) hx hb dX5_row_49 (by decide) ?_
        refine lv_iadd hx hb dX5_row_50 ?_
        refine va_put (D := D) (ci := 5) (v := .int ((h_11 16 10) + (1 : Int32))) (ty := .int) (C := RX5) (T := TX5) (N := 27) hx hb hts hw5 tyX5 tyX5_ok nmX5 hown hK hP hD hS 0 cM_at0 rfl 26 (by decide) k273 (fun _ h9 => h9) rfl (tyX5_ok 26 (by decide)) rfl rfl (Nat.le_of_ble_eq_true rfl) dX5_row_51 (fun H locs hP hD hS => ?_)
        obtain ⟨h_12, eh_12, hf⟩ := nq_e hf
        rw [cM_sc0_26, ← eh_12] at hP hD
        refine lv_aload_n hx hb dX5_row_54 rfl (lv_at hl 1 rfl) ?_
        refine va_get (D := D) (ci := 5) (v := .int (h_12 16 10)) (C := RX5) (T := TX5) (N := 27) hx hb hts hw5 hown hK hP 0 cM_at0 rfl 26 (by decide) k273 (fun _ h9 => h9) rfl dX5_row_55 ?_
        exact hend ((h_12 16 10), h_12) H locs _ _ hf hP hS dX5_row_58
      · replace hf := if_f c_9 hf
        refine lv_aload_n hx hb dX5_row_28 rfl (lv_at hl 1 rfl) ?_
        refine lv_iload_n hx hb dX5_row_29 rfl (lv_at hl 0 rfl) ?_
        obtain ⟨a_13, ha_13, hf⟩ := bd_e hf
        refine Ct.callV (As := [.int a_1]) (rest := []) (st1 := [.int a_13.1]) (c_X5_no l D cI A M a_1 a_13 ha_13) hx hb hml hown hts (cwV 1 hts gX5_row_X5_no rfl rfl rfl hd_X5_no ⟨Nat.le_of_ble_eq_true rfl, Nat.le_of_ble_eq_true rfl⟩) (va_recv hK hP (ci := 5) (q0 := 0) rfl cM_at0) (Ln.id rfl) hA hK hP hD hS rfl hl.1 rfl rfl (Nat.le_of_ble_eq_true rfl) dX5_row_30 (fun H locs hP hD hS => ?_)
        replace hP : va_P D vwCl (cM cI A a_13.2) H := hP
        replace hD : va_D AA (cM cI A a_13.2) := hD
        exact hend (a_13.1, a_13.2) H locs _ _ hf hP hS dX5_row_33
    · replace hf := if_t c_8 hf
      refine lv_bipush (v := -6) hx hb dX5_row_21 (by decide +kernel) ?_
      refine lv_istore_n (lv' := [(2, .int (-6 : Int32)), (0, .ref (A 0)), (1, .int p1)]) hx hb dX5_row_23 rfl hl (by decide) rfl (fun ls hl => ?_)
      refine lv_iload_n hx hb dX5_row_24 rfl (lv_at hl 0 rfl) ?_
      refine lv_if_eq (tgt := 34) hx hb dX5_row_25 (by decide) (fun c0 => absurd c0 (by decide)) (fun _ => ?_)
      refine lv_aload_n hx hb dX5_row_28 rfl (lv_at hl 1 rfl) ?_
      refine lv_iload_n hx hb dX5_row_29 rfl (lv_at hl 0 rfl) ?_
      obtain ⟨a_14, ha_14, hf⟩ := bd_e hf
      refine Ct.callV (As := [.int (-6 : Int32)]) (rest := []) (st1 := [.int a_14.1]) (c_X5_no l D cI A M (-6 : Int32) a_14 ha_14) hx hb hml hown hts (cwV 1 hts gX5_row_X5_no rfl rfl rfl hd_X5_no ⟨Nat.le_of_ble_eq_true rfl, Nat.le_of_ble_eq_true rfl⟩) (va_recv hK hP (ci := 5) (q0 := 0) rfl cM_at0) (Ln.id rfl) hA hK hP hD hS rfl hl.1 rfl rfl (Nat.le_of_ble_eq_true rfl) dX5_row_30 (fun H locs hP hD hS => ?_)
      replace hP : va_P D vwCl (cM cI A a_14.2) H := hP
      replace hD : va_D AA (cM cI A a_14.2) := hD
      exact hend (a_14.1, a_14.2) H locs _ _ hf hP hS dX5_row_33

def rm_X5_judge : Room := { frames := 1, cells := 0, slots := 0, locals := 21 }
theorem hd_X5_judge : yX5_judge.cls = RX5 ∧ yX5_judge.cls ≠ "java/lang/invoke/MethodHandle" ∧ yX5_judge.cls ≠ "java/lang/invoke/VarHandle" ∧ (parseMethodDescriptor yX5_judge.desc).map (fun d => d.parameters.length) = some 0 := by decide +kernel
set_option maxRecDepth 100000 in
set_option maxHeartbeats 4000000 in
theorem c_X5_judge (l : Launch) (D : va_G) (cI : ClassId) (A : Nat → Nat) (M : St) (r : Int32 × St) (hf : f_X5_judge M = some r) : Ct l yX5_judge wsX5_judge rm_X5_judge D cI (cM cI A M) (cM cI A r.2) [.ref (A 0)] (some (.int r.1)) := by
  unfold f_X5_judge at hf
  refine Ct.ofI (cc := cX5_judge) (maxL := 3) (by decide +kernel) rfl (Nat.le_of_ble_eq_true rfl) ?_
  intro p e s m args below meth c AA Q H locs ls hx hb hml hown hts hA hK hP hD hS hl hend0
  have hend : ∀ (r1 : Int32 × St) (H : Heap) (locs : List Loc) (pc : Nat) (ls : Array Slot), some r1 = some r → va_P D vwCl (cM cI A r1.2) H → va_S AA s.heap H locs → decode cX5_judge pc = .ok (.ireturn, 1) → W p l e rm_X5_judge s m args below meth c H locs 0 0 Q (F0 m pc ls [.int r1.1]) := by
    intro r1 H locs pc ls e1 hP hS hd; cases e1; exact hend0 H locs pc ls hP hS hd
  clear hend0
  have hw5 : ∀ w ∈ wsX50, w ∈ wsX5_judge := by decide +kernel
  have k55 := hts (.fieldLink RX5 55 "AnchorsForConfessionModel" "row" "[I") (by decide +kernel)
  have k58 := hts (.fieldLink RX5 58 "AnchorsForConfessionModel" "ships" "I") (by decide +kernel)
  have k273 := hts (.fieldLink RX5 273 "AnchorsForConfessionModel" "rowMany" "I") (by decide +kernel)
  replace hl : lv_has ls 3 [(0, .ref (A 0))] := hl
  refine lv_aload_n hx hb dX5_judge_0 rfl (lv_at hl 0 rfl) ?_
  refine va_get (D := D) (ci := 5) (v := .int (M 16 10)) (C := RX5) (T := TX5) (N := 27) hx hb hts hw5 hown hK hP 0 cM_at0 rfl 26 (by decide) k273 (fun _ h9 => h9) rfl dX5_judge_1 ?_
  refine lv_topi (fun v_1 ev_1 => ?_)
  replace hf := nm_at ev_1 hf
  refine lv_istore_n (lv' := [(1, .int v_1), (0, .ref (A 0))]) hx hb dX5_judge_4 rfl hl (by decide) rfl (fun ls hl => ?_)
  refine lv_aload_n hx hb dX5_judge_5 rfl (lv_at hl 1 rfl) ?_
  refine lv_iconst (v := 0) hx hb dX5_judge_6 (by decide) ?_
  refine va_put (D := D) (ci := 5) (v := .int (0 : Int32)) (ty := .int) (C := RX5) (T := TX5) (N := 27) hx hb hts hw5 tyX5 tyX5_ok nmX5 hown hK hP hD hS 0 cM_at0 rfl 26 (by decide) k273 (fun _ h9 => h9) rfl (tyX5_ok 26 (by decide)) rfl rfl (Nat.le_of_ble_eq_true rfl) dX5_judge_7 (fun H locs hP hD hS => ?_)
  obtain ⟨h_2, eh_2, hf⟩ := nq_e hf
  rw [cM_sc0_26, ← eh_2] at hP hD
  refine lv_iconst (v := 0) hx hb dX5_judge_10 (by decide) ?_
  refine lv_istore_n (lv' := [(2, .int (0 : Int32)), (1, .int v_1), (0, .ref (A 0))]) hx hb dX5_judge_11 rfl hl (by decide) rfl (fun ls hl => ?_)
  refine lp_ind (P := fun (q12 : Int32) => ∀ (H : Heap) (locs : List Loc) (ls : Array Slot), va_P D vwCl (cM cI A h_2) H → va_D AA (cM cI A h_2) → va_S AA s.heap H locs → lv_has ls 3 [(0, .ref (A 0)), (1, .int v_1), (2, .int q12)] → W p l e rm_X5_judge s m args below meth c H locs 0 0 Q (F0 m 12 ls [])) hf ?_ H locs ls hP hD hS (lv_sub hl [2, 1, 0] rfl)
  clear hf hP hD hS hl
  intro nx12 ih12 q12 hf H locs ls hP hD hS hl
  refine lv_iload_n hx hb dX5_judge_12 rfl (lv_at hl 2 rfl) ?_
  refine lv_iload_n hx hb dX5_judge_13 rfl (lv_at hl 1 rfl) ?_
  refine lv_icmp_ge (tgt := 47) hx hb dX5_judge_14 (by decide) (fun c_3 => ?_) (fun c_3 => ?_)
  · replace hf := if_t c_3 hf
    refine lv_bipush (v := -9) hx hb dX5_judge_47 (by decide +kernel) ?_
    exact hend ((-9 : Int32), h_2) H locs _ _ hf hP hS dX5_judge_49
  · replace hf := if_f c_3 hf
    refine lv_iload_n hx hb dX5_judge_17 rfl (lv_at hl 2 rfl) ?_
    refine lv_aload_n hx hb dX5_judge_18 rfl (lv_at hl 0 rfl) ?_
    refine va_get (D := D) (ci := 5) (v := .int (h_2 16 0)) (C := RX5) (T := TX5) (N := 27) hx hb hts hw5 hown hK hP 0 cM_at0 rfl 8 (by decide) k58 (fun _ h9 => h9) rfl dX5_judge_19 ?_
    refine lv_icmp_ge (tgt := 39) hx hb dX5_judge_22 (by decide) (fun c_4 => ?_) (fun c_4 => ?_)
    · replace hf := if_t c_4 hf
      refine lv_iload_n hx hb dX5_judge_39 rfl (lv_at hl 2 rfl) ?_
      exact hend (q12, h_2) H locs _ _ hf hP hS dX5_judge_40
    · replace hf := if_f c_4 hf
      refine lv_aload_n hx hb dX5_judge_25 rfl (lv_at hl 0 rfl) ?_
      refine lv_iload_n hx hb dX5_judge_26 rfl (lv_at hl 2 rfl) ?_
      obtain ⟨a_5, ha_5, hf⟩ := bd_e hf
      refine Ct.callV (As := [.int q12]) (rest := []) (st1 := [.int a_5]) (c_X5_holds l D cI A h_2 q12 a_5 ha_5) hx hb hml hown hts (cwV 1 hts gX5_judge_X5_holds rfl rfl rfl hd_X5_holds ⟨Nat.le_of_ble_eq_true rfl, Nat.le_of_ble_eq_true rfl⟩) (va_recv hK hP (ci := 5) (q0 := 0) rfl cM_at0) (Ln.id rfl) hA hK hP hD hS rfl hl.1 rfl rfl (Nat.le_of_ble_eq_true rfl) dX5_judge_27 (fun H locs hP hD hS => ?_)
      refine lv_aload_n hx hb dX5_judge_30 rfl (lv_at hl 0 rfl) ?_
      refine va_get (D := D) (ci := 5) (v := .ref (A 16)) (C := RX5) (T := TX5) (N := 27) hx hb hts hw5 hown hK hP 0 cM_at0 rfl 25 (by decide) k55 (fun _ h9 => h9) rfl dX5_judge_31 ?_
      refine lv_iload_n hx hb dX5_judge_34 rfl (lv_at hl 2 rfl) ?_
      obtain ⟨c_6, hf⟩ := gi_e hf
      refine va_iald hx hb hK hP 16 0 cM_at16 rfl c_6 dX5_judge_35 ?_
      refine lv_icmp_eq (tgt := 41) hx hb dX5_judge_36 (by decide) (fun c_7 => ?_) (fun c_7 => ?_)
      · replace hf := if_t c_7 hf
        obtain ⟨v_8, ev_8, hf⟩ := nq_e hf
        refine lv_iinc (v := v_8) (lv' := [(2, .int v_8), (0, .ref (A 0)), (1, .int v_1)]) hx hb dX5_judge_41 hl (k := 2) rfl (by rw [ev_8]; rfl) (by decide) rfl (fun ls hl => ?_)
        refine lv_goto (tgt := 12) hx hb dX5_judge_44 (by decide) ?_
        exact ih12 v_8 hf H locs ls hP hD hS (lv_sub hl [1, 2, 0] rfl)
      · replace hf := if_f c_7 hf
        refine lv_iload_n hx hb dX5_judge_39 rfl (lv_at hl 2 rfl) ?_
        exact hend (q12, h_2) H locs _ _ hf hP hS dX5_judge_40

def rm_X5_clear : Room := { frames := 0, cells := 0, slots := 0, locals := 0 }
theorem hd_X5_clear : yX5_clear.cls = RX5 ∧ yX5_clear.cls ≠ "java/lang/invoke/MethodHandle" ∧ yX5_clear.cls ≠ "java/lang/invoke/VarHandle" ∧ (parseMethodDescriptor yX5_clear.desc).map (fun d => d.parameters.length) = some 0 := by decide +kernel
set_option maxRecDepth 100000 in
set_option maxHeartbeats 4000000 in
theorem c_X5_clear (l : Launch) (D : va_G) (cI : ClassId) (A : Nat → Nat) (M : St) (r : Int32 × St) (hf : f_X5_clear M = some r) : Ct l yX5_clear wsX5_clear rm_X5_clear D cI (cM cI A M) (cM cI A r.2) [.ref (A 0)] (some (.int r.1)) := by
  unfold f_X5_clear at hf
  refine Ct.ofI (cc := cX5_clear) (maxL := 2) (by decide +kernel) rfl (Nat.le_of_ble_eq_true rfl) ?_
  intro p e s m args below meth c AA Q H locs ls hx hb hml hown hts hA hK hP hD hS hl hend0
  have hend : ∀ (r1 : Int32 × St) (H : Heap) (locs : List Loc) (pc : Nat) (ls : Array Slot), some r1 = some r → va_P D vwCl (cM cI A r1.2) H → va_S AA s.heap H locs → decode cX5_clear pc = .ok (.ireturn, 1) → W p l e rm_X5_clear s m args below meth c H locs 0 0 Q (F0 m pc ls [.int r1.1]) := by
    intro r1 H locs pc ls e1 hP hS hd; cases e1; exact hend0 H locs pc ls hP hS hd
  clear hend0
  have hw5 : ∀ w ∈ wsX50, w ∈ wsX5_clear := by decide +kernel
  have k273 := hts (.fieldLink RX5 273 "AnchorsForConfessionModel" "rowMany" "I") (by decide +kernel)
  replace hl : lv_has ls 2 [(0, .ref (A 0))] := hl
  refine lv_aload_n hx hb dX5_clear_0 rfl (lv_at hl 0 rfl) ?_
  refine va_get (D := D) (ci := 5) (v := .int (M 16 10)) (C := RX5) (T := TX5) (N := 27) hx hb hts hw5 hown hK hP 0 cM_at0 rfl 26 (by decide) k273 (fun _ h9 => h9) rfl dX5_clear_1 ?_
  refine lv_topi (fun v_1 ev_1 => ?_)
  replace hf := nm_at ev_1 hf
  refine lv_istore_n (lv' := [(1, .int v_1), (0, .ref (A 0))]) hx hb dX5_clear_4 rfl hl (by decide) rfl (fun ls hl => ?_)
  refine lv_aload_n hx hb dX5_clear_5 rfl (lv_at hl 1 rfl) ?_
  refine lv_iconst (v := 0) hx hb dX5_clear_6 (by decide) ?_
  refine va_put (D := D) (ci := 5) (v := .int (0 : Int32)) (ty := .int) (C := RX5) (T := TX5) (N := 27) hx hb hts hw5 tyX5 tyX5_ok nmX5 hown hK hP hD hS 0 cM_at0 rfl 26 (by decide) k273 (fun _ h9 => h9) rfl (tyX5_ok 26 (by decide)) rfl rfl (Nat.le_of_ble_eq_true rfl) dX5_clear_7 (fun H locs hP hD hS => ?_)
  obtain ⟨h_2, eh_2, hf⟩ := nq_e hf
  rw [cM_sc0_26, ← eh_2] at hP hD
  refine lv_iload_n hx hb dX5_clear_10 rfl (lv_at hl 0 rfl) ?_
  exact hend (v_1, h_2) H locs _ _ hf hP hS dX5_clear_11

def rm_X5_lots : Room := { frames := 4, cells := 0, slots := 0, locals := 88 }
theorem hd_X5_lots : yX5_lots.cls = RX5 ∧ yX5_lots.cls ≠ "java/lang/invoke/MethodHandle" ∧ yX5_lots.cls ≠ "java/lang/invoke/VarHandle" ∧ (parseMethodDescriptor yX5_lots.desc).map (fun d => d.parameters.length) = some 3 := by decide +kernel
set_option maxRecDepth 100000 in
set_option maxHeartbeats 4000000 in
theorem c_X5_lots (l : Launch) (D : va_G) (cI : ClassId) (A : Nat → Nat) (M : St) (p1 : Int32) (p2 : Int32) (p3 : Int32) (r : Int32 × St) (hf : f_X5_lots M p1 p2 p3 = some r) : Ct l yX5_lots wsX5_lots rm_X5_lots D cI (cM cI A M) (cM cI A r.2) [.ref (A 0), .int p1, .int p2, .int p3] (some (.int r.1)) := by
  unfold f_X5_lots at hf
  refine Ct.ofI (cc := cX5_lots) (maxL := 11) (by decide +kernel) rfl (Nat.le_of_ble_eq_true rfl) ?_
  intro p e s m args below meth c AA Q H locs ls hx hb hml hown hts hA hK hP hD hS hl hend0
  have hend : ∀ (r1 : Int32 × St) (H : Heap) (locs : List Loc) (pc : Nat) (ls : Array Slot), some r1 = some r → va_P D vwCl (cM cI A r1.2) H → va_S AA s.heap H locs → decode cX5_lots pc = .ok (.ireturn, 1) → W p l e rm_X5_lots s m args below meth c H locs 0 0 Q (F0 m pc ls [.int r1.1]) := by
    intro r1 H locs pc ls e1 hP hS hd; cases e1; exact hend0 H locs pc ls hP hS hd
  clear hend0
  have hw5 : ∀ w ∈ wsX50, w ∈ wsX5_lots := by decide +kernel
  have k65 := hts (.fieldLink RX5 65 "AnchorsForConfessionModel" "men" "I") (by decide +kernel)
  have kc283 := hts (.constant RX5 283 1664525) (by decide +kernel)
  have kc284 := hts (.constant RX5 284 1013904223) (by decide +kernel)
  have kc285 := hts (.constant RX5 285 2147483647) (by decide +kernel)
  replace hl : lv_has ls 11 [(0, .ref (A 0)), (1, .int p1), (2, .int p2), (3, .int p3)] := hl
  refine lv_iload_n hx hb dX5_lots_0 rfl (lv_at hl 1 rfl) ?_
  refine lv_iconst (v := 1) hx hb dX5_lots_1 (by decide) ?_
  refine lv_bipush (v := 20) hx hb dX5_lots_2 (by decide +kernel) ?_
  obtain ⟨a_1, ha_1, hf⟩ := bd_e hf
  refine Ct.callS (As := [.int p1, .int (1 : Int32), .int (20 : Int32)]) (rest := []) (st1 := [.int a_1]) (c_X5_bound l D cI  p1 (1 : Int32) (20 : Int32) a_1 ha_1) hx hb hml hown hts (va_cwS 3 hts gX5_lots_X5_bound rfl rfl rfl hd_X5_bound ⟨Nat.le_of_ble_eq_true rfl, Nat.le_of_ble_eq_true rfl⟩) Ln.nil hA hK hP hD hS rfl hl.1 rfl rfl (Nat.le_of_ble_eq_true rfl) dX5_lots_4 (fun H locs hP hD hS => ?_)
  refine lv_istore (lv' := [(4, .int a_1), (0, .ref (A 0)), (1, .int p1), (2, .int p2), (3, .int p3)]) hx hb dX5_lots_7 hl (by decide) rfl (fun ls hl => ?_)
  refine lv_iload hx hb dX5_lots_9 (lv_at hl 0 rfl) ?_
  refine lv_if_ne (tgt := 43) hx hb dX5_lots_11 (by decide) (fun c_2 => ?_) (fun c_2 => ?_)
  · replace hf := if_f c_2 hf
    refine lv_iload hx hb dX5_lots_43 (lv_at hl 0 rfl) ?_
    refine lv_if_eq (tgt := 55) hx hb dX5_lots_45 (by decide) (fun c_3 => ?_) (fun c_3 => ?_)
    · replace hf := if_t c_3 hf
      refine lv_iload_n hx hb dX5_lots_55 rfl (lv_at hl 3 rfl) ?_
      refine lv_istore (lv' := [(5, .int p2), (4, .int a_1), (0, .ref (A 0)), (1, .int p1), (2, .int p2), (3, .int p3)]) hx hb dX5_lots_56 hl (by decide) rfl (fun ls hl => ?_)
      refine lv_iconst (v := 0) hx hb dX5_lots_58 (by decide) ?_
      refine lv_istore (lv' := [(6, .int (0 : Int32)), (5, .int p2), (4, .int a_1), (0, .ref (A 0)), (1, .int p1), (2, .int p2), (3, .int p3)]) hx hb dX5_lots_59 hl (by decide) rfl (fun ls hl => ?_)
      refine lv_iconst (v := 0) hx hb dX5_lots_61 (by decide) ?_
      refine lv_istore (lv' := [(7, .int (0 : Int32)), (6, .int (0 : Int32)), (5, .int p2), (4, .int a_1), (0, .ref (A 0)), (1, .int p1), (2, .int p2), (3, .int p3)]) hx hb dX5_lots_62 hl (by decide) rfl (fun ls hl => ?_)
      refine lv_iconst (v := 0) hx hb dX5_lots_64 (by decide) ?_
      refine lv_istore (lv' := [(8, .int (0 : Int32)), (7, .int (0 : Int32)), (6, .int (0 : Int32)), (5, .int p2), (4, .int a_1), (0, .ref (A 0)), (1, .int p1), (2, .int p2), (3, .int p3)]) hx hb dX5_lots_65 hl (by decide) rfl (fun ls hl => ?_)
      refine lp_ind (P := fun (q67 : Int32 × Int32 × Int32 × Int32 × St) => ∀ (H : Heap) (locs : List Loc) (ls : Array Slot), va_P D vwCl (cM cI A q67.2.2.2.2) H → va_D AA (cM cI A q67.2.2.2.2) → va_S AA s.heap H locs → lv_has ls 11 [(0, .ref (A 0)), (1, .int p1), (3, .int p3), (5, .int q67.1), (6, .int q67.2.1), (7, .int q67.2.2.1), (8, .int q67.2.2.2.1)] → W p l e rm_X5_lots s m args below meth c H locs 0 0 Q (F0 m 67 ls [])) hf ?_ H locs ls hP hD hS (lv_sub hl [5, 6, 8, 3, 2, 1, 0] rfl)
      clear hf hP hD hS hl
      intro nx67 ih67 q67 hf H locs ls hP hD hS hl
      refine lv_iload hx hb dX5_lots_67 (lv_at hl 6 rfl) ?_
      refine lv_iload_n hx hb dX5_lots_69 rfl (lv_at hl 1 rfl) ?_
      refine lv_icmp_ge (tgt := 169) hx hb dX5_lots_70 (by decide) (fun c_4 => ?_) (fun c_4 => ?_)
      · replace hf := if_t c_4 hf
        refine lv_iload_n hx hb dX5_lots_169 rfl (lv_at hl 2 rfl) ?_
        refine lv_if_ne (tgt := 178) hx hb dX5_lots_170 (by decide) (fun c_5 => ?_) (fun c_5 => ?_)
        · replace hf := if_f c_5 hf
          refine lv_iload hx hb dX5_lots_178 (lv_at hl 5 rfl) ?_
          exact hend (q67.2.2.1, q67.2.2.2.2) H locs _ _ hf hP hS dX5_lots_180
        · replace hf := if_t c_5 hf
          refine lv_iload hx hb dX5_lots_173 (lv_at hl 4 rfl) ?_
          refine lv_goto (tgt := 180) hx hb dX5_lots_175 (by decide) ?_
          exact hend (q67.2.1, q67.2.2.2.2) H locs _ _ hf hP hS dX5_lots_180
      · replace hf := if_f c_4 hf
        refine lv_aload_n hx hb dX5_lots_73 rfl (lv_at hl 0 rfl) ?_
        obtain ⟨a_6, ha_6, hf⟩ := bd_e hf
        refine Ct.callV (As := []) (rest := []) (st1 := []) (c_X5_thinks l D cI A q67.2.2.2.2 a_6 ha_6) hx hb hml hown hts (cwV 0 hts gX5_lots_X5_thinks rfl rfl rfl hd_X5_thinks ⟨Nat.le_of_ble_eq_true rfl, Nat.le_of_ble_eq_true rfl⟩) (va_recv hK hP (ci := 5) (q0 := 0) rfl cM_at0) (Ln.id rfl) hA hK hP hD hS rfl hl.1 rfl rfl (Nat.le_of_ble_eq_true rfl) dX5_lots_74 (fun H locs hP hD hS => ?_)
        replace hP : va_P D vwCl (cM cI A a_6) H := hP
        replace hD : va_D AA (cM cI A a_6) := hD
        refine lv_iconst (v := 0) hx hb dX5_lots_77 (by decide) ?_
        refine lv_istore (lv' := [(9, .int (0 : Int32)), (0, .ref (A 0)), (1, .int p1), (3, .int p3), (5, .int q67.1), (6, .int q67.2.1), (7, .int q67.2.2.1), (8, .int q67.2.2.2.1)]) hx hb dX5_lots_78 hl (by decide) rfl (fun ls hl => ?_)
        refine lp_ind (P := fun (q80 : Int32 × Int32 × Int32 × St) => ∀ (H : Heap) (locs : List Loc) (ls : Array Slot), va_P D vwCl (cM cI A q80.2.2.2) H → va_D AA (cM cI A q80.2.2.2) → va_S AA s.heap H locs → lv_has ls 11 [(0, .ref (A 0)), (1, .int p1), (3, .int p3), (5, .int q80.1), (6, .int q80.2.1), (7, .int q67.2.2.1), (8, .int q67.2.2.2.1), (9, .int q80.2.2.1)] → W p l e rm_X5_lots s m args below meth c H locs 0 0 Q (F0 m 80 ls [])) hf ?_ H locs ls hP hD hS (lv_sub hl [1, 2, 3, 4, 5, 6, 7, 0] rfl)
        clear hf hP hD hS hl
        intro nx80 ih80 q80 hf H locs ls hP hD hS hl
        refine lv_iload hx hb dX5_lots_80 (lv_at hl 7 rfl) ?_
        refine lv_bipush (v := 12) hx hb dX5_lots_82 (by decide +kernel) ?_
        refine lv_icmp_ge (tgt := 150) hx hb dX5_lots_84 (by decide) (fun c_7 => ?_) (fun c_7 => ?_)
        · replace hf := if_t c_7 hf
          refine lv_iload hx hb dX5_lots_150 (lv_at hl 5 rfl) ?_
          refine lv_aload_n hx hb dX5_lots_152 rfl (lv_at hl 0 rfl) ?_
          obtain ⟨a_8, ha_8, hf⟩ := bd_e hf
          refine Ct.callV (As := []) (rest := [.int q67.2.2.1]) (st1 := [.int a_8, .int q67.2.2.1]) (c_X5_allSins l D cI A q80.2.2.2 a_8 ha_8) hx hb hml hown hts (cwV 0 hts gX5_lots_X5_allSins rfl rfl rfl hd_X5_allSins ⟨Nat.le_of_ble_eq_true rfl, Nat.le_of_ble_eq_true rfl⟩) (va_recv hK hP (ci := 5) (q0 := 0) rfl cM_at0) (Ln.id rfl) hA hK hP hD hS rfl hl.1 rfl rfl (Nat.le_of_ble_eq_true rfl) dX5_lots_153 (fun H locs hP hD hS => ?_)
          refine lv_iadd hx hb dX5_lots_156 ?_
          refine lv_topi (fun v_9 ev_9 => ?_)
          replace hf := nm_at ev_9 hf
          refine lv_istore (lv' := [(7, .int v_9), (0, .ref (A 0)), (1, .int p1), (3, .int p3), (5, .int q80.1), (6, .int q80.2.1), (8, .int q67.2.2.2.1), (9, .int q80.2.2.1)]) hx hb dX5_lots_157 hl (by decide) rfl (fun ls hl => ?_)
          refine lv_aload_n hx hb dX5_lots_159 rfl (lv_at hl 1 rfl) ?_
          obtain ⟨a_10, ha_10, hf⟩ := bd_e hf
          refine Ct.callV (As := []) (rest := []) (st1 := []) (c_X5_forgets l D cI A q80.2.2.2 a_10 ha_10) hx hb hml hown hts (cwV 0 hts gX5_lots_X5_forgets rfl rfl rfl hd_X5_forgets ⟨Nat.le_of_ble_eq_true rfl, Nat.le_of_ble_eq_true rfl⟩) (va_recv hK hP (ci := 5) (q0 := 0) rfl cM_at0) (Ln.id rfl) hA hK hP hD hS rfl hl.1 rfl rfl (Nat.le_of_ble_eq_true rfl) dX5_lots_160 (fun H locs hP hD hS => ?_)
          replace hP : va_P D vwCl (cM cI A a_10) H := hP
          replace hD : va_D AA (cM cI A a_10) := hD
          obtain ⟨v_11, ev_11, hf⟩ := nq_e hf
          refine lv_iinc (v := v_11) (lv' := [(8, .int v_11), (7, .int v_9), (0, .ref (A 0)), (1, .int p1), (3, .int p3), (5, .int q80.1), (6, .int q80.2.1), (9, .int q80.2.2.1)]) hx hb dX5_lots_163 hl (k := 6) rfl (by rw [ev_11]; rfl) (by decide) rfl (fun ls hl => ?_)
          refine lv_goto (tgt := 67) hx hb dX5_lots_166 (by decide) ?_
          exact ih67 (q80.1, q80.2.1, v_9, v_11, a_10) hf H locs ls hP hD hS (lv_sub hl [2, 3, 4, 5, 6, 1, 0] rfl)
        · replace hf := if_f c_7 hf
          refine lv_iload hx hb dX5_lots_87 (lv_at hl 3 rfl) ?_
          refine lv_ldcw (v := 1664525) hx hb hown kc283 dX5_lots_89 ?_
          refine lv_imul hx hb dX5_lots_92 ?_
          refine lv_ldcw (v := 1013904223) hx hb hown kc284 dX5_lots_93 ?_
          refine lv_iadd hx hb dX5_lots_96 ?_
          refine lv_topi (fun v_12 ev_12 => ?_)
          replace hf := nm_at ev_12 hf
          refine lv_istore (lv' := [(5, .int v_12), (0, .ref (A 0)), (1, .int p1), (3, .int p3), (6, .int q80.2.1), (7, .int q67.2.2.1), (8, .int q67.2.2.2.1), (9, .int q80.2.2.1)]) hx hb dX5_lots_97 hl (by decide) rfl (fun ls hl => ?_)
          refine lv_iload hx hb dX5_lots_99 (lv_at hl 0 rfl) ?_
          refine lv_ldcw (v := 2147483647) hx hb hown kc285 dX5_lots_101 ?_
          refine lv_iand hx hb dX5_lots_104 ?_
          refine lv_sipush (v := 256) hx hb dX5_lots_105 (by decide +kernel) ?_
          refine lv_idiv hx hb dX5_lots_108 (by decide) ?_
          refine lv_aload_n hx hb dX5_lots_109 rfl (lv_at hl 1 rfl) ?_
          refine va_get (D := D) (ci := 5) (v := .int (q80.2.2.2 16 1)) (C := RX5) (T := TX5) (N := 27) hx hb hts hw5 hown hK hP 0 cM_at0 rfl 9 (by decide) k65 (fun _ h9 => h9) rfl dX5_lots_110 ?_
          obtain ⟨c_14, hf⟩ := gd_e hf
          refine lv_irem hx hb dX5_lots_113 c_14 ?_
          refine lv_topi (fun v_15 ev_15 => ?_)
          replace hf := nm_at ev_15 hf
          refine lv_istore (lv' := [(10, .int v_15), (5, .int v_12), (0, .ref (A 0)), (1, .int p1), (3, .int p3), (6, .int q80.2.1), (7, .int q67.2.2.1), (8, .int q67.2.2.2.1), (9, .int q80.2.2.1)]) hx hb dX5_lots_114 hl (by decide) rfl (fun ls hl => ?_)
          refine lv_iload hx hb dX5_lots_116 (lv_at hl 5 rfl) ?_
          refine lv_aload_n hx hb dX5_lots_118 rfl (lv_at hl 2 rfl) ?_
          refine lv_iload hx hb dX5_lots_119 (lv_at hl 0 rfl) ?_
          obtain ⟨a_16, ha_16, hf⟩ := bd_e hf
          refine Ct.callV (As := [.int v_15]) (rest := [.int q80.2.1]) (st1 := [.int a_16, .int q80.2.1]) (c_X5_canTell l D cI A q80.2.2.2 v_15 a_16 ha_16) hx hb hml hown hts (cwV 1 hts gX5_lots_X5_canTell rfl rfl rfl hd_X5_canTell ⟨Nat.le_of_ble_eq_true rfl, Nat.le_of_ble_eq_true rfl⟩) (va_recv hK hP (ci := 5) (q0 := 0) rfl cM_at0) (Ln.id rfl) hA hK hP hD hS rfl hl.1 rfl rfl (Nat.le_of_ble_eq_true rfl) dX5_lots_121 (fun H locs hP hD hS => ?_)
          refine lv_if_eq (tgt := 136) hx hb dX5_lots_124 (by decide) (fun c_17 => ?_) (fun c_17 => ?_)
          · replace hf := if_t c_17 hf
            refine lv_iconst (v := 0) hx hb dX5_lots_136 (by decide) ?_
            refine lv_iadd hx hb dX5_lots_137 ?_
            refine lv_topi (fun v_18 ev_18 => ?_)
            replace hf := nm_at ev_18 hf
            refine lv_istore (lv' := [(6, .int v_18), (10, .int v_15), (5, .int v_12), (0, .ref (A 0)), (1, .int p1), (3, .int p3), (7, .int q67.2.2.1), (8, .int q67.2.2.2.1), (9, .int q80.2.2.1)]) hx hb dX5_lots_138 hl (by decide) rfl (fun ls hl => ?_)
            refine lv_aload_n hx hb dX5_lots_140 rfl (lv_at hl 3 rfl) ?_
            obtain ⟨a_19, ha_19, hf⟩ := bd_e hf
            refine Ct.callV (As := []) (rest := []) (st1 := []) (c_X5_goesTide l D cI A q80.2.2.2 a_19 ha_19) hx hb hml hown hts (cwV 0 hts gX5_lots_X5_goesTide rfl rfl rfl hd_X5_goesTide ⟨Nat.le_of_ble_eq_true rfl, Nat.le_of_ble_eq_true rfl⟩) (va_recv hK hP (ci := 5) (q0 := 0) rfl cM_at0) (Ln.id rfl) hA hK hP hD hS rfl hl.1 rfl rfl (Nat.le_of_ble_eq_true rfl) dX5_lots_141 (fun H locs hP hD hS => ?_)
            replace hP : va_P D vwCl (cM cI A a_19) H := hP
            replace hD : va_D AA (cM cI A a_19) := hD
            obtain ⟨v_20, ev_20, hf⟩ := nq_e hf
            refine lv_iinc (v := v_20) (lv' := [(9, .int v_20), (6, .int v_18), (10, .int v_15), (5, .int v_12), (0, .ref (A 0)), (1, .int p1), (3, .int p3), (7, .int q67.2.2.1), (8, .int q67.2.2.2.1)]) hx hb dX5_lots_144 hl (k := 8) rfl (by rw [ev_20]; rfl) (by decide) rfl (fun ls hl => ?_)
            refine lv_goto (tgt := 80) hx hb dX5_lots_147 (by decide) ?_
            exact ih80 (v_12, v_18, v_20, a_19) hf H locs ls hP hD hS (lv_sub hl [4, 5, 6, 3, 1, 7, 8, 0] rfl)
          · replace hf := if_f c_17 hf
            refine lv_aload_n hx hb dX5_lots_127 rfl (lv_at hl 2 rfl) ?_
            refine lv_iload hx hb dX5_lots_128 (lv_at hl 0 rfl) ?_
            obtain ⟨a_21, ha_21, hf⟩ := bd_e hf
            refine Ct.callV (As := [.int v_15]) (rest := [.int q80.2.1]) (st1 := [.int a_21.1, .int q80.2.1]) (c_X5_tellsOne l D cI A q80.2.2.2 v_15 a_21 ha_21) hx hb hml hown hts (cwV 1 hts gX5_lots_X5_tellsOne rfl rfl rfl hd_X5_tellsOne ⟨Nat.le_of_ble_eq_true rfl, Nat.le_of_ble_eq_true rfl⟩) (va_recv hK hP (ci := 5) (q0 := 0) rfl cM_at0) (Ln.id rfl) hA hK hP hD hS rfl hl.1 rfl rfl (Nat.le_of_ble_eq_true rfl) dX5_lots_130 (fun H locs hP hD hS => ?_)
            replace hP : va_P D vwCl (cM cI A a_21.2) H := hP
            replace hD : va_D AA (cM cI A a_21.2) := hD
            refine lv_goto (tgt := 137) hx hb dX5_lots_133 (by decide) ?_
            refine lv_iadd hx hb dX5_lots_137 ?_
            refine lv_topi (fun v_22 ev_22 => ?_)
            replace hf := nm_at ev_22 hf
            refine lv_istore (lv' := [(6, .int v_22), (10, .int v_15), (5, .int v_12), (0, .ref (A 0)), (1, .int p1), (3, .int p3), (7, .int q67.2.2.1), (8, .int q67.2.2.2.1), (9, .int q80.2.2.1)]) hx hb dX5_lots_138 hl (by decide) rfl (fun ls hl => ?_)
            refine lv_aload_n hx hb dX5_lots_140 rfl (lv_at hl 3 rfl) ?_
            obtain ⟨a_23, ha_23, hf⟩ := bd_e hf
            refine Ct.callV (As := []) (rest := []) (st1 := []) (c_X5_goesTide l D cI A a_21.2 a_23 ha_23) hx hb hml hown hts (cwV 0 hts gX5_lots_X5_goesTide rfl rfl rfl hd_X5_goesTide ⟨Nat.le_of_ble_eq_true rfl, Nat.le_of_ble_eq_true rfl⟩) (va_recv hK hP (ci := 5) (q0 := 0) rfl cM_at0) (Ln.id rfl) hA hK hP hD hS rfl hl.1 rfl rfl (Nat.le_of_ble_eq_true rfl) dX5_lots_141 (fun H locs hP hD hS => ?_)
            replace hP : va_P D vwCl (cM cI A a_23) H := hP
            replace hD : va_D AA (cM cI A a_23) := hD
            obtain ⟨v_24, ev_24, hf⟩ := nq_e hf
            refine lv_iinc (v := v_24) (lv' := [(9, .int v_24), (6, .int v_22), (10, .int v_15), (5, .int v_12), (0, .ref (A 0)), (1, .int p1), (3, .int p3), (7, .int q67.2.2.1), (8, .int q67.2.2.2.1)]) hx hb dX5_lots_144 hl (k := 8) rfl (by rw [ev_24]; rfl) (by decide) rfl (fun ls hl => ?_)
            refine lv_goto (tgt := 80) hx hb dX5_lots_147 (by decide) ?_
            exact ih80 (v_12, v_22, v_24, a_23) hf H locs ls hP hD hS (lv_sub hl [4, 5, 6, 3, 1, 7, 8, 0] rfl)
    · replace hf := if_f c_3 hf
      refine lv_aload_n hx hb dX5_lots_48 rfl (lv_at hl 1 rfl) ?_
      refine lv_iload hx hb dX5_lots_49 (lv_at hl 0 rfl) ?_
      obtain ⟨a_25, ha_25, hf⟩ := bd_e hf
      refine Ct.callV (As := [.int a_1]) (rest := []) (st1 := [.int a_25.1]) (c_X5_no l D cI A M a_1 a_25 ha_25) hx hb hml hown hts (cwV 1 hts gX5_lots_X5_no rfl rfl rfl hd_X5_no ⟨Nat.le_of_ble_eq_true rfl, Nat.le_of_ble_eq_true rfl⟩) (va_recv hK hP (ci := 5) (q0 := 0) rfl cM_at0) (Ln.id rfl) hA hK hP hD hS rfl hl.1 rfl rfl (Nat.le_of_ble_eq_true rfl) dX5_lots_51 (fun H locs hP hD hS => ?_)
      replace hP : va_P D vwCl (cM cI A a_25.2) H := hP
      replace hD : va_D AA (cM cI A a_25.2) := hD
      exact hend (a_25.1, a_25.2) H locs _ _ hf hP hS dX5_lots_54
  · replace hf := if_t c_2 hf
    refine lv_iload_n hx hb dX5_lots_14 rfl (lv_at hl 4 rfl) ?_
    refine lv_iconst (v := 0) hx hb dX5_lots_15 (by decide) ?_
    refine lv_iconst (v := 1) hx hb dX5_lots_16 (by decide) ?_
    obtain ⟨a_26, ha_26, hf⟩ := bd_e hf
    refine Ct.callS (As := [.int p3, .int (0 : Int32), .int (1 : Int32)]) (rest := []) (st1 := [.int a_26]) (c_X5_isIn l D cI  p3 (0 : Int32) (1 : Int32) a_26 ha_26) hx hb hml hown hts (va_cwS 3 hts gX5_lots_X5_isIn rfl rfl rfl hd_X5_isIn ⟨Nat.le_of_ble_eq_true rfl, Nat.le_of_ble_eq_true rfl⟩) Ln.nil hA hK hP hD hS rfl hl.1 rfl rfl (Nat.le_of_ble_eq_true rfl) dX5_lots_17 (fun H locs hP hD hS => ?_)
    refine lv_if_ne (tgt := 28) hx hb dX5_lots_20 (by decide) (fun c_27 => ?_) (fun c_27 => ?_)
    · replace hf := if_f c_27 hf
      refine lv_aload_n hx hb dX5_lots_28 rfl (lv_at hl 1 rfl) ?_
      refine va_get (D := D) (ci := 5) (v := .int (M 16 1)) (C := RX5) (T := TX5) (N := 27) hx hb hts hw5 hown hK hP 0 cM_at0 rfl 9 (by decide) k65 (fun _ h9 => h9) rfl dX5_lots_29 ?_
      refine lv_if_ne (tgt := 40) hx hb dX5_lots_32 (by decide) (fun c_28 => ?_) (fun c_28 => ?_)
      · replace hf := if_f c_28 hf
        refine lv_iconst (v := 0) hx hb dX5_lots_40 (by decide) ?_
        refine lv_istore (lv' := [(4, .int (0 : Int32)), (0, .ref (A 0)), (1, .int p1), (2, .int p2), (3, .int p3)]) hx hb dX5_lots_41 hl (by decide) rfl (fun ls hl => ?_)
        refine lv_iload hx hb dX5_lots_43 (lv_at hl 0 rfl) ?_
        refine lv_if_eq (tgt := 55) hx hb dX5_lots_45 (by decide) (fun _ => ?_) (fun c0 => absurd c0 (by decide))
        refine lv_iload_n hx hb dX5_lots_55 rfl (lv_at hl 3 rfl) ?_
        refine lv_istore (lv' := [(5, .int p2), (4, .int (0 : Int32)), (0, .ref (A 0)), (1, .int p1), (2, .int p2), (3, .int p3)]) hx hb dX5_lots_56 hl (by decide) rfl (fun ls hl => ?_)
        refine lv_iconst (v := 0) hx hb dX5_lots_58 (by decide) ?_
        refine lv_istore (lv' := [(6, .int (0 : Int32)), (5, .int p2), (4, .int (0 : Int32)), (0, .ref (A 0)), (1, .int p1), (2, .int p2), (3, .int p3)]) hx hb dX5_lots_59 hl (by decide) rfl (fun ls hl => ?_)
        refine lv_iconst (v := 0) hx hb dX5_lots_61 (by decide) ?_
        refine lv_istore (lv' := [(7, .int (0 : Int32)), (6, .int (0 : Int32)), (5, .int p2), (4, .int (0 : Int32)), (0, .ref (A 0)), (1, .int p1), (2, .int p2), (3, .int p3)]) hx hb dX5_lots_62 hl (by decide) rfl (fun ls hl => ?_)
        refine lv_iconst (v := 0) hx hb dX5_lots_64 (by decide) ?_
        refine lv_istore (lv' := [(8, .int (0 : Int32)), (7, .int (0 : Int32)), (6, .int (0 : Int32)), (5, .int p2), (4, .int (0 : Int32)), (0, .ref (A 0)), (1, .int p1), (2, .int p2), (3, .int p3)]) hx hb dX5_lots_65 hl (by decide) rfl (fun ls hl => ?_)
        refine lp_ind (P := fun (q67 : Int32 × Int32 × Int32 × Int32 × St) => ∀ (H : Heap) (locs : List Loc) (ls : Array Slot), va_P D vwCl (cM cI A q67.2.2.2.2) H → va_D AA (cM cI A q67.2.2.2.2) → va_S AA s.heap H locs → lv_has ls 11 [(0, .ref (A 0)), (1, .int p1), (3, .int p3), (5, .int q67.1), (6, .int q67.2.1), (7, .int q67.2.2.1), (8, .int q67.2.2.2.1)] → W p l e rm_X5_lots s m args below meth c H locs 0 0 Q (F0 m 67 ls [])) hf ?_ H locs ls hP hD hS (lv_sub hl [5, 6, 8, 3, 2, 1, 0] rfl)
        clear hf hP hD hS hl
        intro nx67 ih67 q67 hf H locs ls hP hD hS hl
        refine lv_iload hx hb dX5_lots_67 (lv_at hl 6 rfl) ?_
        refine lv_iload_n hx hb dX5_lots_69 rfl (lv_at hl 1 rfl) ?_
        refine lv_icmp_ge (tgt := 169) hx hb dX5_lots_70 (by decide) (fun c_29 => ?_) (fun c_29 => ?_)
        · replace hf := if_t c_29 hf
          refine lv_iload_n hx hb dX5_lots_169 rfl (lv_at hl 2 rfl) ?_
          refine lv_if_ne (tgt := 178) hx hb dX5_lots_170 (by decide) (fun c_30 => ?_) (fun c_30 => ?_)
          · replace hf := if_f c_30 hf
            refine lv_iload hx hb dX5_lots_178 (lv_at hl 5 rfl) ?_
            exact hend (q67.2.2.1, q67.2.2.2.2) H locs _ _ hf hP hS dX5_lots_180
          · replace hf := if_t c_30 hf
            refine lv_iload hx hb dX5_lots_173 (lv_at hl 4 rfl) ?_
            refine lv_goto (tgt := 180) hx hb dX5_lots_175 (by decide) ?_
            exact hend (q67.2.1, q67.2.2.2.2) H locs _ _ hf hP hS dX5_lots_180
        · replace hf := if_f c_29 hf
          refine lv_aload_n hx hb dX5_lots_73 rfl (lv_at hl 0 rfl) ?_
          obtain ⟨a_31, ha_31, hf⟩ := bd_e hf
          refine Ct.callV (As := []) (rest := []) (st1 := []) (c_X5_thinks l D cI A q67.2.2.2.2 a_31 ha_31) hx hb hml hown hts (cwV 0 hts gX5_lots_X5_thinks rfl rfl rfl hd_X5_thinks ⟨Nat.le_of_ble_eq_true rfl, Nat.le_of_ble_eq_true rfl⟩) (va_recv hK hP (ci := 5) (q0 := 0) rfl cM_at0) (Ln.id rfl) hA hK hP hD hS rfl hl.1 rfl rfl (Nat.le_of_ble_eq_true rfl) dX5_lots_74 (fun H locs hP hD hS => ?_)
          replace hP : va_P D vwCl (cM cI A a_31) H := hP
          replace hD : va_D AA (cM cI A a_31) := hD
          refine lv_iconst (v := 0) hx hb dX5_lots_77 (by decide) ?_
          refine lv_istore (lv' := [(9, .int (0 : Int32)), (0, .ref (A 0)), (1, .int p1), (3, .int p3), (5, .int q67.1), (6, .int q67.2.1), (7, .int q67.2.2.1), (8, .int q67.2.2.2.1)]) hx hb dX5_lots_78 hl (by decide) rfl (fun ls hl => ?_)
          refine lp_ind (P := fun (q80 : Int32 × Int32 × Int32 × St) => ∀ (H : Heap) (locs : List Loc) (ls : Array Slot), va_P D vwCl (cM cI A q80.2.2.2) H → va_D AA (cM cI A q80.2.2.2) → va_S AA s.heap H locs → lv_has ls 11 [(0, .ref (A 0)), (1, .int p1), (3, .int p3), (5, .int q80.1), (6, .int q80.2.1), (7, .int q67.2.2.1), (8, .int q67.2.2.2.1), (9, .int q80.2.2.1)] → W p l e rm_X5_lots s m args below meth c H locs 0 0 Q (F0 m 80 ls [])) hf ?_ H locs ls hP hD hS (lv_sub hl [1, 2, 3, 4, 5, 6, 7, 0] rfl)
          clear hf hP hD hS hl
          intro nx80 ih80 q80 hf H locs ls hP hD hS hl
          refine lv_iload hx hb dX5_lots_80 (lv_at hl 7 rfl) ?_
          refine lv_bipush (v := 12) hx hb dX5_lots_82 (by decide +kernel) ?_
          refine lv_icmp_ge (tgt := 150) hx hb dX5_lots_84 (by decide) (fun c_32 => ?_) (fun c_32 => ?_)
          · replace hf := if_t c_32 hf
            refine lv_iload hx hb dX5_lots_150 (lv_at hl 5 rfl) ?_
            refine lv_aload_n hx hb dX5_lots_152 rfl (lv_at hl 0 rfl) ?_
            obtain ⟨a_33, ha_33, hf⟩ := bd_e hf
            refine Ct.callV (As := []) (rest := [.int q67.2.2.1]) (st1 := [.int a_33, .int q67.2.2.1]) (c_X5_allSins l D cI A q80.2.2.2 a_33 ha_33) hx hb hml hown hts (cwV 0 hts gX5_lots_X5_allSins rfl rfl rfl hd_X5_allSins ⟨Nat.le_of_ble_eq_true rfl, Nat.le_of_ble_eq_true rfl⟩) (va_recv hK hP (ci := 5) (q0 := 0) rfl cM_at0) (Ln.id rfl) hA hK hP hD hS rfl hl.1 rfl rfl (Nat.le_of_ble_eq_true rfl) dX5_lots_153 (fun H locs hP hD hS => ?_)
            refine lv_iadd hx hb dX5_lots_156 ?_
            refine lv_topi (fun v_34 ev_34 => ?_)
            replace hf := nm_at ev_34 hf
            refine lv_istore (lv' := [(7, .int v_34), (0, .ref (A 0)), (1, .int p1), (3, .int p3), (5, .int q80.1), (6, .int q80.2.1), (8, .int q67.2.2.2.1), (9, .int q80.2.2.1)]) hx hb dX5_lots_157 hl (by decide) rfl (fun ls hl => ?_)
            refine lv_aload_n hx hb dX5_lots_159 rfl (lv_at hl 1 rfl) ?_
            obtain ⟨a_35, ha_35, hf⟩ := bd_e hf
            refine Ct.callV (As := []) (rest := []) (st1 := []) (c_X5_forgets l D cI A q80.2.2.2 a_35 ha_35) hx hb hml hown hts (cwV 0 hts gX5_lots_X5_forgets rfl rfl rfl hd_X5_forgets ⟨Nat.le_of_ble_eq_true rfl, Nat.le_of_ble_eq_true rfl⟩) (va_recv hK hP (ci := 5) (q0 := 0) rfl cM_at0) (Ln.id rfl) hA hK hP hD hS rfl hl.1 rfl rfl (Nat.le_of_ble_eq_true rfl) dX5_lots_160 (fun H locs hP hD hS => ?_)
            replace hP : va_P D vwCl (cM cI A a_35) H := hP
            replace hD : va_D AA (cM cI A a_35) := hD
            obtain ⟨v_36, ev_36, hf⟩ := nq_e hf
            refine lv_iinc (v := v_36) (lv' := [(8, .int v_36), (7, .int v_34), (0, .ref (A 0)), (1, .int p1), (3, .int p3), (5, .int q80.1), (6, .int q80.2.1), (9, .int q80.2.2.1)]) hx hb dX5_lots_163 hl (k := 6) rfl (by rw [ev_36]; rfl) (by decide) rfl (fun ls hl => ?_)
            refine lv_goto (tgt := 67) hx hb dX5_lots_166 (by decide) ?_
            exact ih67 (q80.1, q80.2.1, v_34, v_36, a_35) hf H locs ls hP hD hS (lv_sub hl [2, 3, 4, 5, 6, 1, 0] rfl)
          · replace hf := if_f c_32 hf
            refine lv_iload hx hb dX5_lots_87 (lv_at hl 3 rfl) ?_
            refine lv_ldcw (v := 1664525) hx hb hown kc283 dX5_lots_89 ?_
            refine lv_imul hx hb dX5_lots_92 ?_
            refine lv_ldcw (v := 1013904223) hx hb hown kc284 dX5_lots_93 ?_
            refine lv_iadd hx hb dX5_lots_96 ?_
            refine lv_topi (fun v_37 ev_37 => ?_)
            replace hf := nm_at ev_37 hf
            refine lv_istore (lv' := [(5, .int v_37), (0, .ref (A 0)), (1, .int p1), (3, .int p3), (6, .int q80.2.1), (7, .int q67.2.2.1), (8, .int q67.2.2.2.1), (9, .int q80.2.2.1)]) hx hb dX5_lots_97 hl (by decide) rfl (fun ls hl => ?_)
            refine lv_iload hx hb dX5_lots_99 (lv_at hl 0 rfl) ?_
            refine lv_ldcw (v := 2147483647) hx hb hown kc285 dX5_lots_101 ?_
            refine lv_iand hx hb dX5_lots_104 ?_
            refine lv_sipush (v := 256) hx hb dX5_lots_105 (by decide +kernel) ?_
            refine lv_idiv hx hb dX5_lots_108 (by decide) ?_
            refine lv_aload_n hx hb dX5_lots_109 rfl (lv_at hl 1 rfl) ?_
            refine va_get (D := D) (ci := 5) (v := .int (q80.2.2.2 16 1)) (C := RX5) (T := TX5) (N := 27) hx hb hts hw5 hown hK hP 0 cM_at0 rfl 9 (by decide) k65 (fun _ h9 => h9) rfl dX5_lots_110 ?_
            obtain ⟨c_39, hf⟩ := gd_e hf
            refine lv_irem hx hb dX5_lots_113 c_39 ?_
            refine lv_topi (fun v_40 ev_40 => ?_)
            replace hf := nm_at ev_40 hf
            refine lv_istore (lv' := [(10, .int v_40), (5, .int v_37), (0, .ref (A 0)), (1, .int p1), (3, .int p3), (6, .int q80.2.1), (7, .int q67.2.2.1), (8, .int q67.2.2.2.1), (9, .int q80.2.2.1)]) hx hb dX5_lots_114 hl (by decide) rfl (fun ls hl => ?_)
            refine lv_iload hx hb dX5_lots_116 (lv_at hl 5 rfl) ?_
            refine lv_aload_n hx hb dX5_lots_118 rfl (lv_at hl 2 rfl) ?_
            refine lv_iload hx hb dX5_lots_119 (lv_at hl 0 rfl) ?_
            obtain ⟨a_41, ha_41, hf⟩ := bd_e hf
            refine Ct.callV (As := [.int v_40]) (rest := [.int q80.2.1]) (st1 := [.int a_41, .int q80.2.1]) (c_X5_canTell l D cI A q80.2.2.2 v_40 a_41 ha_41) hx hb hml hown hts (cwV 1 hts gX5_lots_X5_canTell rfl rfl rfl hd_X5_canTell ⟨Nat.le_of_ble_eq_true rfl, Nat.le_of_ble_eq_true rfl⟩) (va_recv hK hP (ci := 5) (q0 := 0) rfl cM_at0) (Ln.id rfl) hA hK hP hD hS rfl hl.1 rfl rfl (Nat.le_of_ble_eq_true rfl) dX5_lots_121 (fun H locs hP hD hS => ?_)
            refine lv_if_eq (tgt := 136) hx hb dX5_lots_124 (by decide) (fun c_42 => ?_) (fun c_42 => ?_)
            · replace hf := if_t c_42 hf
              refine lv_iconst (v := 0) hx hb dX5_lots_136 (by decide) ?_
              refine lv_iadd hx hb dX5_lots_137 ?_
              refine lv_topi (fun v_43 ev_43 => ?_)
              replace hf := nm_at ev_43 hf
              refine lv_istore (lv' := [(6, .int v_43), (10, .int v_40), (5, .int v_37), (0, .ref (A 0)), (1, .int p1), (3, .int p3), (7, .int q67.2.2.1), (8, .int q67.2.2.2.1), (9, .int q80.2.2.1)]) hx hb dX5_lots_138 hl (by decide) rfl (fun ls hl => ?_)
              refine lv_aload_n hx hb dX5_lots_140 rfl (lv_at hl 3 rfl) ?_
              obtain ⟨a_44, ha_44, hf⟩ := bd_e hf
              refine Ct.callV (As := []) (rest := []) (st1 := []) (c_X5_goesTide l D cI A q80.2.2.2 a_44 ha_44) hx hb hml hown hts (cwV 0 hts gX5_lots_X5_goesTide rfl rfl rfl hd_X5_goesTide ⟨Nat.le_of_ble_eq_true rfl, Nat.le_of_ble_eq_true rfl⟩) (va_recv hK hP (ci := 5) (q0 := 0) rfl cM_at0) (Ln.id rfl) hA hK hP hD hS rfl hl.1 rfl rfl (Nat.le_of_ble_eq_true rfl) dX5_lots_141 (fun H locs hP hD hS => ?_)
              replace hP : va_P D vwCl (cM cI A a_44) H := hP
              replace hD : va_D AA (cM cI A a_44) := hD
              obtain ⟨v_45, ev_45, hf⟩ := nq_e hf
              refine lv_iinc (v := v_45) (lv' := [(9, .int v_45), (6, .int v_43), (10, .int v_40), (5, .int v_37), (0, .ref (A 0)), (1, .int p1), (3, .int p3), (7, .int q67.2.2.1), (8, .int q67.2.2.2.1)]) hx hb dX5_lots_144 hl (k := 8) rfl (by rw [ev_45]; rfl) (by decide) rfl (fun ls hl => ?_)
              refine lv_goto (tgt := 80) hx hb dX5_lots_147 (by decide) ?_
              exact ih80 (v_37, v_43, v_45, a_44) hf H locs ls hP hD hS (lv_sub hl [4, 5, 6, 3, 1, 7, 8, 0] rfl)
            · replace hf := if_f c_42 hf
              refine lv_aload_n hx hb dX5_lots_127 rfl (lv_at hl 2 rfl) ?_
              refine lv_iload hx hb dX5_lots_128 (lv_at hl 0 rfl) ?_
              obtain ⟨a_46, ha_46, hf⟩ := bd_e hf
              refine Ct.callV (As := [.int v_40]) (rest := [.int q80.2.1]) (st1 := [.int a_46.1, .int q80.2.1]) (c_X5_tellsOne l D cI A q80.2.2.2 v_40 a_46 ha_46) hx hb hml hown hts (cwV 1 hts gX5_lots_X5_tellsOne rfl rfl rfl hd_X5_tellsOne ⟨Nat.le_of_ble_eq_true rfl, Nat.le_of_ble_eq_true rfl⟩) (va_recv hK hP (ci := 5) (q0 := 0) rfl cM_at0) (Ln.id rfl) hA hK hP hD hS rfl hl.1 rfl rfl (Nat.le_of_ble_eq_true rfl) dX5_lots_130 (fun H locs hP hD hS => ?_)
              replace hP : va_P D vwCl (cM cI A a_46.2) H := hP
              replace hD : va_D AA (cM cI A a_46.2) := hD
              refine lv_goto (tgt := 137) hx hb dX5_lots_133 (by decide) ?_
              refine lv_iadd hx hb dX5_lots_137 ?_
              refine lv_topi (fun v_47 ev_47 => ?_)
              replace hf := nm_at ev_47 hf
              refine lv_istore (lv' := [(6, .int v_47), (10, .int v_40), (5, .int v_37), (0, .ref (A 0)), (1, .int p1), (3, .int p3), (7, .int q67.2.2.1), (8, .int q67.2.2.2.1), (9, .int q80.2.2.1)]) hx hb dX5_lots_138 hl (by decide) rfl (fun ls hl => ?_)
              refine lv_aload_n hx hb dX5_lots_140 rfl (lv_at hl 3 rfl) ?_
              obtain ⟨a_48, ha_48, hf⟩ := bd_e hf
              refine Ct.callV (As := []) (rest := []) (st1 := []) (c_X5_goesTide l D cI A a_46.2 a_48 ha_48) hx hb hml hown hts (cwV 0 hts gX5_lots_X5_goesTide rfl rfl rfl hd_X5_goesTide ⟨Nat.le_of_ble_eq_true rfl, Nat.le_of_ble_eq_true rfl⟩) (va_recv hK hP (ci := 5) (q0 := 0) rfl cM_at0) (Ln.id rfl) hA hK hP hD hS rfl hl.1 rfl rfl (Nat.le_of_ble_eq_true rfl) dX5_lots_141 (fun H locs hP hD hS => ?_)
              replace hP : va_P D vwCl (cM cI A a_48) H := hP
              replace hD : va_D AA (cM cI A a_48) := hD
              obtain ⟨v_49, ev_49, hf⟩ := nq_e hf
              refine lv_iinc (v := v_49) (lv' := [(9, .int v_49), (6, .int v_47), (10, .int v_40), (5, .int v_37), (0, .ref (A 0)), (1, .int p1), (3, .int p3), (7, .int q67.2.2.1), (8, .int q67.2.2.2.1)]) hx hb dX5_lots_144 hl (k := 8) rfl (by rw [ev_49]; rfl) (by decide) rfl (fun ls hl => ?_)
              refine lv_goto (tgt := 80) hx hb dX5_lots_147 (by decide) ?_
              exact ih80 (v_37, v_47, v_49, a_48) hf H locs ls hP hD hS (lv_sub hl [4, 5, 6, 3, 1, 7, 8, 0] rfl)
      · replace hf := if_t c_28 hf
        refine lv_bipush (v := -3) hx hb dX5_lots_35 (by decide +kernel) ?_
        refine lv_goto (tgt := 41) hx hb dX5_lots_37 (by decide) ?_
        refine lv_istore (lv' := [(4, .int (-3 : Int32)), (0, .ref (A 0)), (1, .int p1), (2, .int p2), (3, .int p3)]) hx hb dX5_lots_41 hl (by decide) rfl (fun ls hl => ?_)
        refine lv_iload hx hb dX5_lots_43 (lv_at hl 0 rfl) ?_
        refine lv_if_eq (tgt := 55) hx hb dX5_lots_45 (by decide) (fun c0 => absurd c0 (by decide)) (fun _ => ?_)
        refine lv_aload_n hx hb dX5_lots_48 rfl (lv_at hl 1 rfl) ?_
        refine lv_iload hx hb dX5_lots_49 (lv_at hl 0 rfl) ?_
        obtain ⟨a_50, ha_50, hf⟩ := bd_e hf
        refine Ct.callV (As := [.int (-3 : Int32)]) (rest := []) (st1 := [.int a_50.1]) (c_X5_no l D cI A M (-3 : Int32) a_50 ha_50) hx hb hml hown hts (cwV 1 hts gX5_lots_X5_no rfl rfl rfl hd_X5_no ⟨Nat.le_of_ble_eq_true rfl, Nat.le_of_ble_eq_true rfl⟩) (va_recv hK hP (ci := 5) (q0 := 0) rfl cM_at0) (Ln.id rfl) hA hK hP hD hS rfl hl.1 rfl rfl (Nat.le_of_ble_eq_true rfl) dX5_lots_51 (fun H locs hP hD hS => ?_)
        replace hP : va_P D vwCl (cM cI A a_50.2) H := hP
        replace hD : va_D AA (cM cI A a_50.2) := hD
        exact hend (a_50.1, a_50.2) H locs _ _ hf hP hS dX5_lots_54
    · replace hf := if_t c_27 hf
      refine lv_bipush (v := -2) hx hb dX5_lots_23 (by decide +kernel) ?_
      refine lv_goto (tgt := 41) hx hb dX5_lots_25 (by decide) ?_
      refine lv_istore (lv' := [(4, .int (-2 : Int32)), (0, .ref (A 0)), (1, .int p1), (2, .int p2), (3, .int p3)]) hx hb dX5_lots_41 hl (by decide) rfl (fun ls hl => ?_)
      refine lv_iload hx hb dX5_lots_43 (lv_at hl 0 rfl) ?_
      refine lv_if_eq (tgt := 55) hx hb dX5_lots_45 (by decide) (fun c0 => absurd c0 (by decide)) (fun _ => ?_)
      refine lv_aload_n hx hb dX5_lots_48 rfl (lv_at hl 1 rfl) ?_
      refine lv_iload hx hb dX5_lots_49 (lv_at hl 0 rfl) ?_
      obtain ⟨a_51, ha_51, hf⟩ := bd_e hf
      refine Ct.callV (As := [.int (-2 : Int32)]) (rest := []) (st1 := [.int a_51.1]) (c_X5_no l D cI A M (-2 : Int32) a_51 ha_51) hx hb hml hown hts (cwV 1 hts gX5_lots_X5_no rfl rfl rfl hd_X5_no ⟨Nat.le_of_ble_eq_true rfl, Nat.le_of_ble_eq_true rfl⟩) (va_recv hK hP (ci := 5) (q0 := 0) rfl cM_at0) (Ln.id rfl) hA hK hP hD hS rfl hl.1 rfl rfl (Nat.le_of_ble_eq_true rfl) dX5_lots_51 (fun H locs hP hD hS => ?_)
      replace hP : va_P D vwCl (cM cI A a_51.2) H := hP
      replace hD : va_D AA (cM cI A a_51.2) := hD
      exact hend (a_51.1, a_51.2) H locs _ _ hf hP hS dX5_lots_54

def rm_X5_count : Room := { frames := 1, cells := 0, slots := 0, locals := 22 }
theorem hd_X5_count : yX5_count.cls = RX5 ∧ yX5_count.cls ≠ "java/lang/invoke/MethodHandle" ∧ yX5_count.cls ≠ "java/lang/invoke/VarHandle" ∧ (parseMethodDescriptor yX5_count.desc).map (fun d => d.parameters.length) = some 1 := by decide +kernel
set_option maxRecDepth 100000 in
set_option maxHeartbeats 4000000 in
theorem c_X5_count (l : Launch) (D : va_G) (cI : ClassId) (A : Nat → Nat) (M : St) (p1 : Int32) (r : Int32) (hf : f_X5_count M p1 = some r) : Ct l yX5_count wsX5_count rm_X5_count D cI (cM cI A M) (cM cI A M) [.ref (A 0), .int p1] (some (.int r)) := by
  unfold f_X5_count at hf
  refine Ct.ofI (cc := cX5_count) (maxL := 2) (by decide +kernel) rfl (Nat.le_of_ble_eq_true rfl) ?_
  intro p e s m args below meth c AA Q H locs ls hx hb hml hown hts hA hK hP hD hS hl hend0
  have hend : ∀ (r1 : Int32) (H : Heap) (locs : List Loc) (pc : Nat) (ls : Array Slot), some r1 = some r → va_P D vwCl (cM cI A M) H → va_S AA s.heap H locs → decode cX5_count pc = .ok (.ireturn, 1) → W p l e rm_X5_count s m args below meth c H locs 0 0 Q (F0 m pc ls [.int r1]) := by
    intro r1 H locs pc ls e1 hP hS hd; cases e1; exact hend0 H locs pc ls hP hS hd
  clear hend0
  have hw5 : ∀ w ∈ wsX50, w ∈ wsX5_count := by decide +kernel
  have k7 := hts (.fieldLink RX5 7 "AnchorsForConfessionModel" "refused" "[I") (by decide +kernel)
  have k58 := hts (.fieldLink RX5 58 "AnchorsForConfessionModel" "ships" "I") (by decide +kernel)
  have k65 := hts (.fieldLink RX5 65 "AnchorsForConfessionModel" "men" "I") (by decide +kernel)
  have k72 := hts (.fieldLink RX5 72 "AnchorsForConfessionModel" "taped" "I") (by decide +kernel)
  have k110 := hts (.fieldLink RX5 110 "AnchorsForConfessionModel" "tide" "I") (by decide +kernel)
  have k160 := hts (.fieldLink RX5 160 "AnchorsForConfessionModel" "heard" "I") (by decide +kernel)
  have k273 := hts (.fieldLink RX5 273 "AnchorsForConfessionModel" "rowMany" "I") (by decide +kernel)
  replace hl : lv_has ls 2 [(0, .ref (A 0)), (1, .int p1)] := hl
  refine lv_iload_n hx hb dX5_count_0 rfl (lv_at hl 1 rfl) ?_
  refine lv_bipush (v := 11) hx hb dX5_count_1 (by decide +kernel) ?_
  refine lv_bipush (v := 16) hx hb dX5_count_3 (by decide +kernel) ?_
  obtain ⟨a_1, ha_1, hf⟩ := bd_e hf
  refine Ct.callS (As := [.int p1, .int (11 : Int32), .int (16 : Int32)]) (rest := []) (st1 := [.int a_1]) (c_X5_isIn l D cI  p1 (11 : Int32) (16 : Int32) a_1 ha_1) hx hb hml hown hts (va_cwS 3 hts gX5_count_X5_isIn rfl rfl rfl hd_X5_isIn ⟨Nat.le_of_ble_eq_true rfl, Nat.le_of_ble_eq_true rfl⟩) Ln.nil hA hK hP hD hS rfl hl.1 rfl rfl (Nat.le_of_ble_eq_true rfl) dX5_count_5 (fun H locs hP hD hS => ?_)
  refine lv_if_eq (tgt := 21) hx hb dX5_count_8 (by decide) (fun c_2 => ?_) (fun c_2 => ?_)
  · replace hf := if_t c_2 hf
    refine lv_iload_n hx hb dX5_count_21 rfl (lv_at hl 1 rfl) ?_
    by_cases c_3 : p1 = 0
    · replace hf := if_t c_3 hf
      refine lv_tableIn (off := 46) (tgt := 68) hx hb dX5_count_22 (by rw [c_3]; decide +kernel) (by rw [c_3]; decide +kernel) (by rw [c_3]; decide +kernel) (by decide) ?_
      refine lv_aload_n hx hb dX5_count_68 rfl (lv_at hl 0 rfl) ?_
      refine va_get (D := D) (ci := 5) (v := .int (M 16 0)) (C := RX5) (T := TX5) (N := 27) hx hb hts hw5 hown hK hP 0 cM_at0 rfl 8 (by decide) k58 (fun _ h9 => h9) rfl dX5_count_69 ?_
      exact hend (M 16 0) H locs _ _ hf hP hS dX5_count_72
    · replace hf := if_f c_3 hf
      by_cases c_4 : p1 = 1
      · replace hf := if_t c_4 hf
        refine lv_tableIn (off := 51) (tgt := 73) hx hb dX5_count_22 (by rw [c_4]; decide +kernel) (by rw [c_4]; decide +kernel) (by rw [c_4]; decide +kernel) (by decide) ?_
        refine lv_aload_n hx hb dX5_count_73 rfl (lv_at hl 0 rfl) ?_
        refine va_get (D := D) (ci := 5) (v := .int (M 16 1)) (C := RX5) (T := TX5) (N := 27) hx hb hts hw5 hown hK hP 0 cM_at0 rfl 9 (by decide) k65 (fun _ h9 => h9) rfl dX5_count_74 ?_
        exact hend (M 16 1) H locs _ _ hf hP hS dX5_count_77
      · replace hf := if_f c_4 hf
        by_cases c_5 : p1 = 2
        · replace hf := if_t c_5 hf
          refine lv_tableIn (off := 56) (tgt := 78) hx hb dX5_count_22 (by rw [c_5]; decide +kernel) (by rw [c_5]; decide +kernel) (by rw [c_5]; decide +kernel) (by decide) ?_
          refine lv_aload_n hx hb dX5_count_78 rfl (lv_at hl 0 rfl) ?_
          refine va_get (D := D) (ci := 5) (v := .int (M 16 3)) (C := RX5) (T := TX5) (N := 27) hx hb hts hw5 hown hK hP 0 cM_at0 rfl 11 (by decide) k110 (fun _ h9 => h9) rfl dX5_count_79 ?_
          exact hend (M 16 3) H locs _ _ hf hP hS dX5_count_82
        · replace hf := if_f c_5 hf
          by_cases c_6 : p1 = 3
          · replace hf := if_t c_6 hf
            refine lv_tableIn (off := 61) (tgt := 83) hx hb dX5_count_22 (by rw [c_6]; decide +kernel) (by rw [c_6]; decide +kernel) (by rw [c_6]; decide +kernel) (by decide) ?_
            refine lv_aload_n hx hb dX5_count_83 rfl (lv_at hl 0 rfl) ?_
            refine va_get (D := D) (ci := 5) (v := .int (M 16 2)) (C := RX5) (T := TX5) (N := 27) hx hb hts hw5 hown hK hP 0 cM_at0 rfl 10 (by decide) k160 (fun _ h9 => h9) rfl dX5_count_84 ?_
            exact hend (M 16 2) H locs _ _ hf hP hS dX5_count_87
          · replace hf := if_f c_6 hf
            by_cases c_7 : p1 = 4
            · replace hf := if_t c_7 hf
              refine lv_tableIn (off := 66) (tgt := 88) hx hb dX5_count_22 (by rw [c_7]; decide +kernel) (by rw [c_7]; decide +kernel) (by rw [c_7]; decide +kernel) (by decide) ?_
              refine lv_aload_n hx hb dX5_count_88 rfl (lv_at hl 0 rfl) ?_
              obtain ⟨a_8, ha_8, hf⟩ := bd_e hf
              refine Ct.callV (As := []) (rest := []) (st1 := [.int a_8]) (c_X5_outOnes l D cI A M a_8 ha_8) hx hb hml hown hts (cwV 0 hts gX5_count_X5_outOnes rfl rfl rfl hd_X5_outOnes ⟨Nat.le_of_ble_eq_true rfl, Nat.le_of_ble_eq_true rfl⟩) (va_recv hK hP (ci := 5) (q0 := 0) rfl cM_at0) (Ln.id rfl) hA hK hP hD hS rfl hl.1 rfl rfl (Nat.le_of_ble_eq_true rfl) dX5_count_89 (fun H locs hP hD hS => ?_)
              exact hend a_8 H locs _ _ hf hP hS dX5_count_92
            · replace hf := if_f c_7 hf
              by_cases c_9 : p1 = 5
              · replace hf := if_t c_9 hf
                refine lv_tableIn (off := 71) (tgt := 93) hx hb dX5_count_22 (by rw [c_9]; decide +kernel) (by rw [c_9]; decide +kernel) (by rw [c_9]; decide +kernel) (by decide) ?_
                refine lv_aload_n hx hb dX5_count_93 rfl (lv_at hl 0 rfl) ?_
                obtain ⟨a_10, ha_10, hf⟩ := bd_e hf
                refine Ct.callV (As := []) (rest := []) (st1 := [.int a_10]) (c_X5_allSins l D cI A M a_10 ha_10) hx hb hml hown hts (cwV 0 hts gX5_count_X5_allSins rfl rfl rfl hd_X5_allSins ⟨Nat.le_of_ble_eq_true rfl, Nat.le_of_ble_eq_true rfl⟩) (va_recv hK hP (ci := 5) (q0 := 0) rfl cM_at0) (Ln.id rfl) hA hK hP hD hS rfl hl.1 rfl rfl (Nat.le_of_ble_eq_true rfl) dX5_count_94 (fun H locs hP hD hS => ?_)
                exact hend a_10 H locs _ _ hf hP hS dX5_count_97
              · replace hf := if_f c_9 hf
                by_cases c_11 : p1 = 6
                · replace hf := if_t c_11 hf
                  refine lv_tableIn (off := 76) (tgt := 98) hx hb dX5_count_22 (by rw [c_11]; decide +kernel) (by rw [c_11]; decide +kernel) (by rw [c_11]; decide +kernel) (by decide) ?_
                  refine lv_aload_n hx hb dX5_count_98 rfl (lv_at hl 0 rfl) ?_
                  refine va_get (D := D) (ci := 5) (v := .int (M 16 10)) (C := RX5) (T := TX5) (N := 27) hx hb hts hw5 hown hK hP 0 cM_at0 rfl 26 (by decide) k273 (fun _ h9 => h9) rfl dX5_count_99 ?_
                  exact hend (M 16 10) H locs _ _ hf hP hS dX5_count_102
                · replace hf := if_f c_11 hf
                  by_cases c_12 : p1 = 7
                  · replace hf := if_t c_12 hf
                    refine lv_tableIn (off := 81) (tgt := 103) hx hb dX5_count_22 (by rw [c_12]; decide +kernel) (by rw [c_12]; decide +kernel) (by rw [c_12]; decide +kernel) (by decide) ?_
                    refine lv_aload_n hx hb dX5_count_103 rfl (lv_at hl 0 rfl) ?_
                    refine va_get (D := D) (ci := 5) (v := .int (M 16 4)) (C := RX5) (T := TX5) (N := 27) hx hb hts hw5 hown hK hP 0 cM_at0 rfl 16 (by decide) k72 (fun _ h9 => h9) rfl dX5_count_104 ?_
                    exact hend (M 16 4) H locs _ _ hf hP hS dX5_count_107
                  · replace hf := if_f c_12 hf
                    have ht : (p1).toInt < 0 ∨ 7 < (p1).toInt := by
                      have t0 := lv_neT (a := 0) c_3 (by decide +kernel)
                      have t1 := lv_neT (a := 1) c_4 (by decide +kernel)
                      have t2 := lv_neT (a := 2) c_5 (by decide +kernel)
                      have t3 := lv_neT (a := 3) c_6 (by decide +kernel)
                      have t4 := lv_neT (a := 4) c_7 (by decide +kernel)
                      have t5 := lv_neT (a := 5) c_9 (by decide +kernel)
                      have t6 := lv_neT (a := 6) c_11 (by decide +kernel)
                      have t7 := lv_neT (a := 7) c_12 (by decide +kernel)
                      omega
                    refine lv_tableOut (tgt := 108) hx hb dX5_count_22 ht (by decide) ?_
                    refine lv_bipush (v := -9) hx hb dX5_count_108 (by decide +kernel) ?_
                    exact hend (-9 : Int32) H locs _ _ hf hP hS dX5_count_110
  · replace hf := if_f c_2 hf
    refine lv_aload_n hx hb dX5_count_11 rfl (lv_at hl 0 rfl) ?_
    refine va_get (D := D) (ci := 5) (v := .ref (A 1)) (C := RX5) (T := TX5) (N := 27) hx hb hts hw5 hown hK hP 0 cM_at0 rfl 0 (by decide) k7 (fun _ h9 => h9) rfl dX5_count_12 ?_
    refine lv_iload_n hx hb dX5_count_15 rfl (lv_at hl 1 rfl) ?_
    refine lv_bipush (v := 10) hx hb dX5_count_16 (by decide +kernel) ?_
    refine lv_isub hx hb dX5_count_18 ?_
    obtain ⟨c_13, hf⟩ := gi_e hf
    refine va_iald hx hb hK hP 1 0 cM_at1 rfl c_13 dX5_count_19 ?_
    exact hend (M 0 ((p1 - (10 : Int32))).toNatClampNeg) H locs _ _ hf hP hS dX5_count_20
