def rm_J0_coder_7d493 : Room := { frames := 0, cells := 0, slots := 0, locals := 0 }
theorem hd_J0_coder_7d493 : yJ0_coder_7d493.cls = RJ0 ∧ yJ0_coder_7d493.cls ≠ "java/lang/invoke/MethodHandle" ∧ yJ0_coder_7d493.cls ≠ "java/lang/invoke/VarHandle" ∧ (parseMethodDescriptor yJ0_coder_7d493.desc).map (fun d => d.parameters.length) = some 0 := by decide +kernel
set_option maxRecDepth 100000 in
set_option maxHeartbeats 4000000 in
theorem c_J0_coder_7d493 (l : Launch) (D : va_G) (cI : ClassId) (adK adV : Nat → Nat) (i0 : Nat) (r : Int32) (hf : f_J0_coder_7d493 i0 = some r) : Cw l yJ0_coder_7d493 wsJ0_coder_7d493 rm_J0_coder_7d493 D cI adK adV [] [] [.ref (adK i0)] (some (.int r)) := by
  unfold f_J0_coder_7d493 at hf
  obtain ⟨hi_i0, hf⟩ := gd_e hf
  obtain ⟨hz0, hf⟩ := fnB_e hf
  refine Cw.ofN hz0 (cc := cJ0_coder_7d493) (maxL := 1) (by decide +kernel) rfl (Nat.le_of_ble_eq_true rfl) ?_
  intro p e s m args below meth c AA Q H locs ls hx hb hml hown hts hA hK hE hP hD hS hl hend0
  have hend : ∀ (r1 : Int32) (H : Heap) (locs : List Loc) (pc : Nat) (ls : Array Slot), some r1 = some r → va_P D vwCl [] H → va_S AA s.heap H locs → decode cJ0_coder_7d493 pc = .ok (.ireturn, 1) → W p l e rm_J0_coder_7d493 s m args below meth c H locs 0 0 Q (F0 m pc ls [.int r1]) := by
    intro r1 H locs pc ls e1 hP hS hd; cases e1; exact hend0 H locs pc ls hP hS hd
  clear hend0
  have k15 := hts (.fieldLink RJ0 15 "java/lang/String" "coder" "B") (by decide +kernel)
  have k38 := hts (.fieldLink RJ0 38 "java/lang/String" "COMPACT_STRINGS" "Z") (by decide +kernel)
  replace hl : lv_has ls 1 [(0, .ref (adK i0))] := hl
  refine va_gets hx hb hE.2.1 hS hown k38 (fun _ h9 => h9) dJ0_coder_7d493_0 ?_
  refine lv_if_eq (tgt := 13) hx hb dJ0_coder_7d493_3 (by decide) (fun c0 => absurd c0 (by decide)) (fun _ => ?_)
  refine lv_aload_n hx hb dJ0_coder_7d493_6 rfl (lv_at hl 0 rfl) ?_
  refine vk_getf hx hb (hE.1.1 _ hi_i0).2.1 hS hown k15 (fun _ h9 => h9) dJ0_coder_7d493_7 ?_
  refine lv_goto (tgt := 14) hx hb dJ0_coder_7d493_10 (by decide) ?_
  exact hend (0 : Int32) H locs _ _ hf hP hS dJ0_coder_7d493_14

def rm_J0_isLatin1_aae02 : Room := { frames := 0, cells := 0, slots := 0, locals := 0 }
theorem hd_J0_isLatin1_aae02 : yJ0_isLatin1_aae02.cls = RJ0 ∧ yJ0_isLatin1_aae02.cls ≠ "java/lang/invoke/MethodHandle" ∧ yJ0_isLatin1_aae02.cls ≠ "java/lang/invoke/VarHandle" ∧ (parseMethodDescriptor yJ0_isLatin1_aae02.desc).map (fun d => d.parameters.length) = some 0 := by decide +kernel
set_option maxRecDepth 100000 in
set_option maxHeartbeats 4000000 in
theorem c_J0_isLatin1_aae02 (l : Launch) (D : va_G) (cI : ClassId) (adK adV : Nat → Nat) (i0 : Nat) (r : Int32) (hf : f_J0_isLatin1_aae02 i0 = some r) : Cw l yJ0_isLatin1_aae02 wsJ0_isLatin1_aae02 rm_J0_isLatin1_aae02 D cI adK adV [] [] [.ref (adK i0)] (some (.int r)) := by
  unfold f_J0_isLatin1_aae02 at hf
  obtain ⟨hi_i0, hf⟩ := gd_e hf
  obtain ⟨hz0, hf⟩ := fz_e hf
  refine Cw.ofN (nar_b hz0) (cc := cJ0_isLatin1_aae02) (maxL := 1) (by decide +kernel) rfl (Nat.le_of_ble_eq_true rfl) ?_
  intro p e s m args below meth c AA Q H locs ls hx hb hml hown hts hA hK hE hP hD hS hl hend0
  have hend : ∀ (r1 : Int32) (H : Heap) (locs : List Loc) (pc : Nat) (ls : Array Slot), some r1 = some r → va_P D vwCl [] H → va_S AA s.heap H locs → decode cJ0_isLatin1_aae02 pc = .ok (.ireturn, 1) → W p l e rm_J0_isLatin1_aae02 s m args below meth c H locs 0 0 Q (F0 m pc ls [.int r1]) := by
    intro r1 H locs pc ls e1 hP hS hd; cases e1; exact hend0 H locs pc ls hP hS hd
  clear hend0
  have k15 := hts (.fieldLink RJ0 15 "java/lang/String" "coder" "B") (by decide +kernel)
  have k38 := hts (.fieldLink RJ0 38 "java/lang/String" "COMPACT_STRINGS" "Z") (by decide +kernel)
  replace hl : lv_has ls 1 [(0, .ref (adK i0))] := hl
  refine va_gets hx hb hE.2.1 hS hown k38 (fun _ h9 => h9) dJ0_isLatin1_aae02_0 ?_
  refine lv_if_eq (tgt := 17) hx hb dJ0_isLatin1_aae02_3 (by decide) (fun c0 => absurd c0 (by decide)) (fun _ => ?_)
  refine lv_aload_n hx hb dJ0_isLatin1_aae02_6 rfl (lv_at hl 0 rfl) ?_
  refine vk_getf hx hb (hE.1.1 _ hi_i0).2.1 hS hown k15 (fun _ h9 => h9) dJ0_isLatin1_aae02_7 ?_
  refine lv_if_ne (tgt := 17) hx hb dJ0_isLatin1_aae02_10 (by decide) (fun c0 => absurd c0 (by decide)) (fun _ => ?_)
  refine lv_iconst (v := 1) hx hb dJ0_isLatin1_aae02_13 (by decide) ?_
  refine lv_goto (tgt := 18) hx hb dJ0_isLatin1_aae02_14 (by decide) ?_
  exact hend (1 : Int32) H locs _ _ hf hP hS dJ0_isLatin1_aae02_18

def rm_J0_length_8abf5 : Room := { frames := 1, cells := 0, slots := 0, locals := 20 }
theorem hd_J0_length_8abf5 : yJ0_length_8abf5.cls = RJ0 ∧ yJ0_length_8abf5.cls ≠ "java/lang/invoke/MethodHandle" ∧ yJ0_length_8abf5.cls ≠ "java/lang/invoke/VarHandle" ∧ (parseMethodDescriptor yJ0_length_8abf5.desc).map (fun d => d.parameters.length) = some 0 := by decide +kernel
set_option maxRecDepth 100000 in
set_option maxHeartbeats 4000000 in
theorem c_J0_length_8abf5 (l : Launch) (D : va_G) (cI : ClassId) (adK adV : Nat → Nat) (i0 : Nat) (r : Int32) (hf : f_J0_length_8abf5 i0 = some r) : Cw l yJ0_length_8abf5 wsJ0_length_8abf5 rm_J0_length_8abf5 D cI adK adV [] [] [.ref (adK i0)] (some (.int r)) := by
  unfold f_J0_length_8abf5 at hf
  obtain ⟨hi_i0, hf⟩ := gd_e hf
  refine Cw.ofI (cc := cJ0_length_8abf5) (maxL := 1) (by decide +kernel) rfl (Nat.le_of_ble_eq_true rfl) ?_
  intro p e s m args below meth c AA Q H locs ls hx hb hml hown hts hA hK hE hP hD hS hl hend0
  have hend : ∀ (r1 : Int32) (H : Heap) (locs : List Loc) (pc : Nat) (ls : Array Slot), some r1 = some r → va_P D vwCl [] H → va_S AA s.heap H locs → decode cJ0_length_8abf5 pc = .ok (.ireturn, 1) → W p l e rm_J0_length_8abf5 s m args below meth c H locs 0 0 Q (F0 m pc ls [.int r1]) := by
    intro r1 H locs pc ls e1 hP hS hd; cases e1; exact hend0 H locs pc ls hP hS hd
  clear hend0
  have k9 := hts (.fieldLink RJ0 9 "java/lang/String" "value" "[B") (by decide +kernel)
  replace hl : lv_has ls 1 [(0, .ref (adK i0))] := hl
  refine lv_aload_n hx hb dJ0_length_8abf5_0 rfl (lv_at hl 0 rfl) ?_
  refine vk_getf hx hb (hE.1.1 _ hi_i0).2.2.1 hS hown k9 (fun _ h9 => h9) dJ0_length_8abf5_1 ?_
  refine va_tlen hx hb (hE.1.1 _ hi_i0).2.2.2 hS rfl dJ0_length_8abf5_4 ?_
  refine lv_aload_n hx hb dJ0_length_8abf5_5 rfl (lv_at hl 0 rfl) ?_
  obtain ⟨a_1, ha_1, hf⟩ := bd_e hf
  refine Cw.callV (As := []) (rest := [.int (nI (lenS.getD i0 0))]) (st1 := [.int a_1, .int (nI (lenS.getD i0 0))]) (c_J0_coder_7d493 l D cI adK adV  i0 a_1 ha_1) hE hx hb hml hown hts (cwV 0 hts gJ0_length_8abf5_J0_coder_7d493 rfl rfl rfl hd_J0_coder_7d493 ⟨Nat.le_of_ble_eq_true rfl, Nat.le_of_ble_eq_true rfl⟩) (vk_recv hE.1 hi_i0 hS) (Ln.id rfl) hA hK hP hD hS rfl hl.1 rfl rfl (Nat.le_of_ble_eq_true rfl) dJ0_length_8abf5_6 (fun H locs hP hD hS => ?_)
  refine lv_ishr hx hb dJ0_length_8abf5_9 ?_
  exact hend ((nI (lenS.getD i0 0)) >>> (a_1 &&& 31)) H locs _ _ hf hP hS dJ0_length_8abf5_10

def rm_J0_isEmpty_aae02 : Room := { frames := 0, cells := 0, slots := 0, locals := 0 }
theorem hd_J0_isEmpty_aae02 : yJ0_isEmpty_aae02.cls = RJ0 ∧ yJ0_isEmpty_aae02.cls ≠ "java/lang/invoke/MethodHandle" ∧ yJ0_isEmpty_aae02.cls ≠ "java/lang/invoke/VarHandle" ∧ (parseMethodDescriptor yJ0_isEmpty_aae02.desc).map (fun d => d.parameters.length) = some 0 := by decide +kernel
set_option maxRecDepth 100000 in
set_option maxHeartbeats 4000000 in
theorem c_J0_isEmpty_aae02 (l : Launch) (D : va_G) (cI : ClassId) (adK adV : Nat → Nat) (i0 : Nat) (r : Int32) (hf : f_J0_isEmpty_aae02 i0 = some r) : Cw l yJ0_isEmpty_aae02 wsJ0_isEmpty_aae02 rm_J0_isEmpty_aae02 D cI adK adV [] [] [.ref (adK i0)] (some (.int r)) := by
  unfold f_J0_isEmpty_aae02 at hf
  obtain ⟨hi_i0, hf⟩ := gd_e hf
  obtain ⟨hz0, hf⟩ := fz_e hf
  refine Cw.ofN (nar_b hz0) (cc := cJ0_isEmpty_aae02) (maxL := 1) (by decide +kernel) rfl (Nat.le_of_ble_eq_true rfl) ?_
  intro p e s m args below meth c AA Q H locs ls hx hb hml hown hts hA hK hE hP hD hS hl hend0
  have hend : ∀ (r1 : Int32) (H : Heap) (locs : List Loc) (pc : Nat) (ls : Array Slot), some r1 = some r → va_P D vwCl [] H → va_S AA s.heap H locs → decode cJ0_isEmpty_aae02 pc = .ok (.ireturn, 1) → W p l e rm_J0_isEmpty_aae02 s m args below meth c H locs 0 0 Q (F0 m pc ls [.int r1]) := by
    intro r1 H locs pc ls e1 hP hS hd; cases e1; exact hend0 H locs pc ls hP hS hd
  clear hend0
  have k9 := hts (.fieldLink RJ0 9 "java/lang/String" "value" "[B") (by decide +kernel)
  replace hl : lv_has ls 1 [(0, .ref (adK i0))] := hl
  refine lv_aload_n hx hb dJ0_isEmpty_aae02_0 rfl (lv_at hl 0 rfl) ?_
  refine vk_getf hx hb (hE.1.1 _ hi_i0).2.2.1 hS hown k9 (fun _ h9 => h9) dJ0_isEmpty_aae02_1 ?_
  refine va_tlen hx hb (hE.1.1 _ hi_i0).2.2.2 hS rfl dJ0_isEmpty_aae02_4 ?_
  refine lv_if_ne (tgt := 12) hx hb dJ0_isEmpty_aae02_5 (by decide) (fun c_1 => ?_) (fun c_1 => ?_)
  · replace hf := if_f c_1 hf
    refine lv_iconst (v := 0) hx hb dJ0_isEmpty_aae02_12 (by decide) ?_
    exact hend (0 : Int32) H locs _ _ hf hP hS dJ0_isEmpty_aae02_13
  · replace hf := if_t c_1 hf
    refine lv_iconst (v := 1) hx hb dJ0_isEmpty_aae02_8 (by decide) ?_
    refine lv_goto (tgt := 13) hx hb dJ0_isEmpty_aae02_9 (by decide) ?_
    exact hend (1 : Int32) H locs _ _ hf hP hS dJ0_isEmpty_aae02_13

def rm_J3_checkIndex_8e157 : Room := { frames := 0, cells := 0, slots := 0, locals := 0 }
theorem hd_J3_checkIndex_8e157 : yJ3_checkIndex_8e157.cls ≠ "java/lang/invoke/MethodHandle" ∧ yJ3_checkIndex_8e157.cls ≠ "java/lang/invoke/VarHandle" ∧ (parseMethodDescriptor yJ3_checkIndex_8e157.desc).map (fun d => d.parameters.length) = some 3 := by decide +kernel
set_option maxRecDepth 100000 in
set_option maxHeartbeats 4000000 in
theorem c_J3_checkIndex_8e157_n (l : Launch) (D : va_G) (cI : ClassId) (adK adV : Nat → Nat) (p1 : Int32) (p2 : Int32) (r : Int32) (hf : f_J3_checkIndex_8e157 p1 p2 = some r) : Cw l yJ3_checkIndex_8e157 wsJ3_checkIndex_8e157 rm_J3_checkIndex_8e157 D cI adK adV [] [] [.int p1, .int p2, .null] (some (.int r)) := by
  unfold f_J3_checkIndex_8e157 at hf
  refine Cw.ofI (cc := cJ3_checkIndex_8e157) (maxL := 3) (by decide +kernel) rfl (Nat.le_of_ble_eq_true rfl) ?_
  intro p e s m args below meth c AA Q H locs ls hx hb hml hown hts hA hK hE hP hD hS hl hend0
  have hend : ∀ (r1 : Int32) (H : Heap) (locs : List Loc) (pc : Nat) (ls : Array Slot), some r1 = some r → va_P D vwCl [] H → va_S AA s.heap H locs → decode cJ3_checkIndex_8e157 pc = .ok (.ireturn, 1) → W p l e rm_J3_checkIndex_8e157 s m args below meth c H locs 0 0 Q (F0 m pc ls [.int r1]) := by
    intro r1 H locs pc ls e1 hP hS hd; cases e1; exact hend0 H locs pc ls hP hS hd
  clear hend0
  replace hl : lv_has ls 3 [(0, .int p1), (1, .int p2), (2, .null)] := hl
  refine lv_iload_n hx hb dJ3_checkIndex_8e157_0 rfl (lv_at hl 0 rfl) ?_
  refine lv_if_lt (tgt := 9) hx hb dJ3_checkIndex_8e157_1 (by decide) (fun c_1 => ?_) (fun c_1 => ?_)
  · replace hf := if_t c_1 hf
    cases hf
  · replace hf := if_f c_1 hf
    refine lv_iload_n hx hb dJ3_checkIndex_8e157_4 rfl (lv_at hl 0 rfl) ?_
    refine lv_iload_n hx hb dJ3_checkIndex_8e157_5 rfl (lv_at hl 1 rfl) ?_
    refine lv_icmp_lt (tgt := 16) hx hb dJ3_checkIndex_8e157_6 (by decide) (fun c_2 => ?_) (fun c_2 => ?_)
    · replace hf := if_t c_2 hf
      refine lv_iload_n hx hb dJ3_checkIndex_8e157_16 rfl (lv_at hl 0 rfl) ?_
      exact hend p1 H locs _ _ hf hP hS dJ3_checkIndex_8e157_17
    · replace hf := if_f c_2 hf
      cases hf
set_option maxRecDepth 100000 in
set_option maxHeartbeats 4000000 in
theorem c_J3_checkIndex_8e157_r (tb : Nat) (l : Launch) (D : va_G) (cI : ClassId) (adK adV : Nat → Nat) (p1 : Int32) (p2 : Int32) (r : Int32) (hf : f_J3_checkIndex_8e157 p1 p2 = some r) : Cw l yJ3_checkIndex_8e157 wsJ3_checkIndex_8e157 rm_J3_checkIndex_8e157 D cI adK adV [] [] [.int p1, .int p2, (.ref tb)] (some (.int r)) := by
  unfold f_J3_checkIndex_8e157 at hf
  refine Cw.ofI (cc := cJ3_checkIndex_8e157) (maxL := 3) (by decide +kernel) rfl (Nat.le_of_ble_eq_true rfl) ?_
  intro p e s m args below meth c AA Q H locs ls hx hb hml hown hts hA hK hE hP hD hS hl hend0
  have hend : ∀ (r1 : Int32) (H : Heap) (locs : List Loc) (pc : Nat) (ls : Array Slot), some r1 = some r → va_P D vwCl [] H → va_S AA s.heap H locs → decode cJ3_checkIndex_8e157 pc = .ok (.ireturn, 1) → W p l e rm_J3_checkIndex_8e157 s m args below meth c H locs 0 0 Q (F0 m pc ls [.int r1]) := by
    intro r1 H locs pc ls e1 hP hS hd; cases e1; exact hend0 H locs pc ls hP hS hd
  clear hend0
  replace hl : lv_has ls 3 [(0, .int p1), (1, .int p2), (2, (.ref tb))] := hl
  refine lv_iload_n hx hb dJ3_checkIndex_8e157_0 rfl (lv_at hl 0 rfl) ?_
  refine lv_if_lt (tgt := 9) hx hb dJ3_checkIndex_8e157_1 (by decide) (fun c_1 => ?_) (fun c_1 => ?_)
  · replace hf := if_t c_1 hf
    cases hf
  · replace hf := if_f c_1 hf
    refine lv_iload_n hx hb dJ3_checkIndex_8e157_4 rfl (lv_at hl 0 rfl) ?_
    refine lv_iload_n hx hb dJ3_checkIndex_8e157_5 rfl (lv_at hl 1 rfl) ?_
    refine lv_icmp_lt (tgt := 16) hx hb dJ3_checkIndex_8e157_6 (by decide) (fun c_2 => ?_) (fun c_2 => ?_)
    · replace hf := if_t c_2 hf
      refine lv_iload_n hx hb dJ3_checkIndex_8e157_16 rfl (lv_at hl 0 rfl) ?_
      exact hend p1 H locs _ _ hf hP hS dJ3_checkIndex_8e157_17
    · replace hf := if_f c_2 hf
      cases hf

def rm_J0_checkIndex_df160 : Room := { frames := 1, cells := 0, slots := 0, locals := 22 }
theorem hd_J0_checkIndex_df160 : yJ0_checkIndex_df160.cls ≠ "java/lang/invoke/MethodHandle" ∧ yJ0_checkIndex_df160.cls ≠ "java/lang/invoke/VarHandle" ∧ (parseMethodDescriptor yJ0_checkIndex_df160.desc).map (fun d => d.parameters.length) = some 2 := by decide +kernel
set_option maxRecDepth 100000 in
set_option maxHeartbeats 4000000 in
theorem c_J0_checkIndex_df160 (l : Launch) (D : va_G) (cI : ClassId) (adK adV : Nat → Nat) (p1 : Int32) (p2 : Int32) (r : Unit) (hf : f_J0_checkIndex_df160 p1 p2 = some r) : Cw l yJ0_checkIndex_df160 wsJ0_checkIndex_df160 rm_J0_checkIndex_df160 D cI adK adV [] [] [.int p1, .int p2] none := by
  unfold f_J0_checkIndex_df160 at hf
  refine Cw.ofV (cc := cJ0_checkIndex_df160) (maxL := 2) (by decide +kernel) rfl (Nat.le_of_ble_eq_true rfl) ?_
  intro p e s m args below meth c AA Q H locs ls hx hb hml hown hts hA hK hE hP hD hS hl hend0
  have hend : ∀ (r1 : Unit) (H : Heap) (locs : List Loc) (pc : Nat) (ls : Array Slot), some r1 = some r → va_P D vwCl [] H → va_S AA s.heap H locs → decode cJ0_checkIndex_df160 pc = .ok (.return_, 1) → W p l e rm_J0_checkIndex_df160 s m args below meth c H locs 0 0 Q (F0 m pc ls []) := by
    intro r1 H locs pc ls e1 hP hS hd; cases e1; exact hend0 H locs pc ls hP hS hd
  clear hend0
  have k1053 := hts (.fieldLink RJ0 1053 "jdk/internal/util/Preconditions" "SIOOBE_FORMATTER" "Ljava/util/function/BiFunction;") (by decide +kernel)
  replace hl : lv_has ls 2 [(0, .int p1), (1, .int p2)] := hl
  rcases hE.2.2.1 with hz | ⟨tb, hz⟩
  · refine lv_iload_n hx hb dJ0_checkIndex_df160_0 rfl (lv_at hl 0 rfl) ?_
    refine lv_iload_n hx hb dJ0_checkIndex_df160_1 rfl (lv_at hl 1 rfl) ?_
    refine va_gets hx hb hz hS hown k1053 (fun _ h9 => h9) dJ0_checkIndex_df160_2 ?_
    obtain ⟨a_1, ha_1, hf⟩ := bd_e hf
    refine Cw.callS (As := [.int p1, .int p2, .null]) (rest := []) (st1 := [.int a_1]) (c_J3_checkIndex_8e157_n l D cI adK adV  p1 p2 a_1 ha_1) hE hx hb hml hown hts (va_cwS 3 hts gJ0_checkIndex_df160_J3_checkIndex_8e157 rfl rfl rfl hd_J3_checkIndex_8e157 ⟨Nat.le_of_ble_eq_true rfl, Nat.le_of_ble_eq_true rfl⟩) (Ln.id rfl) hA hK hP hD hS rfl hl.1 rfl rfl (Nat.le_of_ble_eq_true rfl) dJ0_checkIndex_df160_5 (fun H locs hP hD hS => ?_)
    refine lv_pop hx hb dJ0_checkIndex_df160_8 rfl ?_
    exact hend () H locs _ _ hf hP hS dJ0_checkIndex_df160_9
  · refine lv_iload_n hx hb dJ0_checkIndex_df160_0 rfl (lv_at hl 0 rfl) ?_
    refine lv_iload_n hx hb dJ0_checkIndex_df160_1 rfl (lv_at hl 1 rfl) ?_
    refine va_gets hx hb hz hS hown k1053 (fun _ h9 => h9) dJ0_checkIndex_df160_2 ?_
    obtain ⟨a_1, ha_1, hf⟩ := bd_e hf
    refine Cw.callS (As := [.int p1, .int p2, (.ref tb)]) (rest := []) (st1 := [.int a_1]) (c_J3_checkIndex_8e157_r tb l D cI adK adV  p1 p2 a_1 ha_1) hE hx hb hml hown hts (va_cwS 3 hts gJ0_checkIndex_df160_J3_checkIndex_8e157 rfl rfl rfl hd_J3_checkIndex_8e157 ⟨Nat.le_of_ble_eq_true rfl, Nat.le_of_ble_eq_true rfl⟩) (Ln.id rfl) hA hK hP hD hS rfl hl.1 rfl rfl (Nat.le_of_ble_eq_true rfl) dJ0_checkIndex_df160_5 (fun H locs hP hD hS => ?_)
    refine lv_pop hx hb dJ0_checkIndex_df160_8 rfl ?_
    exact hend () H locs _ _ hf hP hS dJ0_checkIndex_df160_9

def rm_J1_charAt_3b067 : Room := { frames := 2, cells := 0, slots := 0, locals := 43 }
theorem hd_J1_charAt_3b067 : yJ1_charAt_3b067.cls ≠ "java/lang/invoke/MethodHandle" ∧ yJ1_charAt_3b067.cls ≠ "java/lang/invoke/VarHandle" ∧ (parseMethodDescriptor yJ1_charAt_3b067.desc).map (fun d => d.parameters.length) = some 2 := by decide +kernel
set_option maxRecDepth 100000 in
set_option maxHeartbeats 4000000 in
theorem c_J1_charAt_3b067 (l : Launch) (D : va_G) (cI : ClassId) (adK adV : Nat → Nat) (i0 : Nat) (p2 : Int32) (r : Int32) (hf : f_J1_charAt_3b067 i0 p2 = some r) : Cw l yJ1_charAt_3b067 wsJ1_charAt_3b067 rm_J1_charAt_3b067 D cI adK adV [] [] [.ref (adV i0), .int p2] (some (.int r)) := by
  unfold f_J1_charAt_3b067 at hf
  obtain ⟨hi_i0, hf⟩ := gd_e hf
  obtain ⟨hz0, hf⟩ := fnC_e hf
  refine Cw.ofN hz0 (cc := cJ1_charAt_3b067) (maxL := 2) (by decide +kernel) rfl (Nat.le_of_ble_eq_true rfl) ?_
  intro p e s m args below meth c AA Q H locs ls hx hb hml hown hts hA hK hE hP hD hS hl hend0
  have hend : ∀ (r1 : Int32) (H : Heap) (locs : List Loc) (pc : Nat) (ls : Array Slot), some r1 = some r → va_P D vwCl [] H → va_S AA s.heap H locs → decode cJ1_charAt_3b067 pc = .ok (.ireturn, 1) → W p l e rm_J1_charAt_3b067 s m args below meth c H locs 0 0 Q (F0 m pc ls [.int r1]) := by
    intro r1 H locs pc ls e1 hP hS hd; cases e1; exact hend0 H locs pc ls hP hS hd
  clear hend0
  replace hl : lv_has ls 2 [(0, .ref (adV i0)), (1, .int p2)] := hl
  refine lv_iload_n hx hb dJ1_charAt_3b067_0 rfl (lv_at hl 1 rfl) ?_
  refine lv_aload_n hx hb dJ1_charAt_3b067_1 rfl (lv_at hl 0 rfl) ?_
  refine va_tlen hx hb (hE.1.1 _ hi_i0).2.2.2 hS rfl dJ1_charAt_3b067_2 ?_
  obtain ⟨a_1, ha_1, hf⟩ := bd_e hf
  refine Cw.callS (As := [.int p2, .int (nI (lenS.getD i0 0))]) (rest := []) (st1 := []) (c_J0_checkIndex_df160 l D cI adK adV  p2 (nI (lenS.getD i0 0)) a_1 ha_1) hE hx hb hml hown hts (va_cwS 2 hts gJ1_charAt_3b067_J0_checkIndex_df160 rfl rfl rfl hd_J0_checkIndex_df160 ⟨Nat.le_of_ble_eq_true rfl, Nat.le_of_ble_eq_true rfl⟩) (Ln.id rfl) hA hK hP hD hS rfl hl.1 rfl rfl (Nat.le_of_ble_eq_true rfl) dJ1_charAt_3b067_3 (fun H locs hP hD hS => ?_)
  refine lv_aload_n hx hb dJ1_charAt_3b067_6 rfl (lv_at hl 0 rfl) ?_
  refine lv_iload_n hx hb dJ1_charAt_3b067_7 rfl (lv_at hl 1 rfl) ?_
  obtain ⟨c_2, hf⟩ := gi_e hf
  refine va_tb hx hb (hE.1.1 _ hi_i0).2.2.2 hS c_2 rfl dJ1_charAt_3b067_8 ?_
  refine lv_sipush (v := 255) hx hb dJ1_charAt_3b067_9 (by decide +kernel) ?_
  refine lv_iand hx hb dJ1_charAt_3b067_12 ?_
  refine lv_i2c (v := (((((bytS.getD i0 []).getD (p2).toNatClampNeg 0) &&& (255 : Int32))).toUInt32 % 65536).toInt32) hx hb dJ1_charAt_3b067_13 rfl ?_
  exact hend (((((bytS.getD i0 []).getD (p2).toNatClampNeg 0) &&& (255 : Int32))).toUInt32 % 65536).toInt32 H locs _ _ hf hP hS dJ1_charAt_3b067_14

def rm_J0_charAt_5068e : Room := { frames := 3, cells := 0, slots := 0, locals := 64 }
theorem hd_J0_charAt_5068e : yJ0_charAt_5068e.cls = RJ0 ∧ yJ0_charAt_5068e.cls ≠ "java/lang/invoke/MethodHandle" ∧ yJ0_charAt_5068e.cls ≠ "java/lang/invoke/VarHandle" ∧ (parseMethodDescriptor yJ0_charAt_5068e.desc).map (fun d => d.parameters.length) = some 1 := by decide +kernel
set_option maxRecDepth 100000 in
set_option maxHeartbeats 4000000 in
theorem c_J0_charAt_5068e (l : Launch) (D : va_G) (cI : ClassId) (adK adV : Nat → Nat) (i0 : Nat) (p1 : Int32) (r : Int32) (hf : f_J0_charAt_5068e i0 p1 = some r) : Cw l yJ0_charAt_5068e wsJ0_charAt_5068e rm_J0_charAt_5068e D cI adK adV [] [] [.ref (adK i0), .int p1] (some (.int r)) := by
  unfold f_J0_charAt_5068e at hf
  obtain ⟨hi_i0, hf⟩ := gd_e hf
  obtain ⟨hz0, hf⟩ := fnC_e hf
  refine Cw.ofN hz0 (cc := cJ0_charAt_5068e) (maxL := 2) (by decide +kernel) rfl (Nat.le_of_ble_eq_true rfl) ?_
  intro p e s m args below meth c AA Q H locs ls hx hb hml hown hts hA hK hE hP hD hS hl hend0
  have hend : ∀ (r1 : Int32) (H : Heap) (locs : List Loc) (pc : Nat) (ls : Array Slot), some r1 = some r → va_P D vwCl [] H → va_S AA s.heap H locs → decode cJ0_charAt_5068e pc = .ok (.ireturn, 1) → W p l e rm_J0_charAt_5068e s m args below meth c H locs 0 0 Q (F0 m pc ls [.int r1]) := by
    intro r1 H locs pc ls e1 hP hS hd; cases e1; exact hend0 H locs pc ls hP hS hd
  clear hend0
  have k9 := hts (.fieldLink RJ0 9 "java/lang/String" "value" "[B") (by decide +kernel)
  replace hl : lv_has ls 2 [(0, .ref (adK i0)), (1, .int p1)] := hl
  refine lv_aload_n hx hb dJ0_charAt_5068e_0 rfl (lv_at hl 0 rfl) ?_
  obtain ⟨a_1, ha_1, hf⟩ := bd_e hf
  obtain ⟨ca_1, hf⟩ := gd_e hf
  subst ca_1
  refine Cw.callV (As := []) (rest := []) (st1 := [.int (1 : Int32)]) (c_J0_isLatin1_aae02 l D cI adK adV  i0 (1 : Int32) ha_1) hE hx hb hml hown hts (cwV 0 hts gJ0_charAt_5068e_J0_isLatin1_aae02 rfl rfl rfl hd_J0_isLatin1_aae02 ⟨Nat.le_of_ble_eq_true rfl, Nat.le_of_ble_eq_true rfl⟩) (vk_recv hE.1 hi_i0 hS) (Ln.id rfl) hA hK hP hD hS rfl hl.1 rfl rfl (Nat.le_of_ble_eq_true rfl) dJ0_charAt_5068e_1 (fun H locs hP hD hS => ?_)
  refine lv_if_eq (tgt := 16) hx hb dJ0_charAt_5068e_4 (by decide) (fun c0 => absurd c0 (by decide)) (fun _ => ?_)
  refine lv_aload_n hx hb dJ0_charAt_5068e_7 rfl (lv_at hl 0 rfl) ?_
  refine vk_getf hx hb (hE.1.1 _ hi_i0).2.2.1 hS hown k9 (fun _ h9 => h9) dJ0_charAt_5068e_8 ?_
  refine lv_iload_n hx hb dJ0_charAt_5068e_11 rfl (lv_at hl 1 rfl) ?_
  obtain ⟨a_2, ha_2, hf⟩ := bd_e hf
  refine Cw.callS (As := [.ref (adV i0), .int p1]) (rest := []) (st1 := [.int a_2]) (c_J1_charAt_3b067 l D cI adK adV  i0 p1 a_2 ha_2) hE hx hb hml hown hts (va_cwS 2 hts gJ0_charAt_5068e_J1_charAt_3b067 rfl rfl rfl hd_J1_charAt_3b067 ⟨Nat.le_of_ble_eq_true rfl, Nat.le_of_ble_eq_true rfl⟩) (Ln.id rfl) hA hK hP hD hS rfl hl.1 rfl rfl (Nat.le_of_ble_eq_true rfl) dJ0_charAt_5068e_12 (fun H locs hP hD hS => ?_)
  exact hend a_2 H locs _ _ hf hP hS dJ0_charAt_5068e_15

def rm_J1_canEncode_9a6ad : Room := { frames := 0, cells := 0, slots := 0, locals := 0 }
theorem hd_J1_canEncode_9a6ad : yJ1_canEncode_9a6ad.cls ≠ "java/lang/invoke/MethodHandle" ∧ yJ1_canEncode_9a6ad.cls ≠ "java/lang/invoke/VarHandle" ∧ (parseMethodDescriptor yJ1_canEncode_9a6ad.desc).map (fun d => d.parameters.length) = some 1 := by decide +kernel
set_option maxRecDepth 100000 in
set_option maxHeartbeats 4000000 in
theorem c_J1_canEncode_9a6ad (l : Launch) (D : va_G) (cI : ClassId) (adK adV : Nat → Nat) (p1 : Int32) (r : Int32) (hf : f_J1_canEncode_9a6ad p1 = some r) : Cw l yJ1_canEncode_9a6ad wsJ1_canEncode_9a6ad rm_J1_canEncode_9a6ad D cI adK adV [] [] [.int p1] (some (.int r)) := by
  unfold f_J1_canEncode_9a6ad at hf
  obtain ⟨hz0, hf⟩ := fz_e hf
  refine Cw.ofN (nar_b hz0) (cc := cJ1_canEncode_9a6ad) (maxL := 1) (by decide +kernel) rfl (Nat.le_of_ble_eq_true rfl) ?_
  intro p e s m args below meth c AA Q H locs ls hx hb hml hown hts hA hK hE hP hD hS hl hend0
  have hend : ∀ (r1 : Int32) (H : Heap) (locs : List Loc) (pc : Nat) (ls : Array Slot), some r1 = some r → va_P D vwCl [] H → va_S AA s.heap H locs → decode cJ1_canEncode_9a6ad pc = .ok (.ireturn, 1) → W p l e rm_J1_canEncode_9a6ad s m args below meth c H locs 0 0 Q (F0 m pc ls [.int r1]) := by
    intro r1 H locs pc ls e1 hP hS hd; cases e1; exact hend0 H locs pc ls hP hS hd
  clear hend0
  replace hl : lv_has ls 1 [(0, .int p1)] := hl
  refine lv_iload_n hx hb dJ1_canEncode_9a6ad_0 rfl (lv_at hl 0 rfl) ?_
  refine lv_if_lt (tgt := 15) hx hb dJ1_canEncode_9a6ad_1 (by decide) (fun c_1 => ?_) (fun c_1 => ?_)
  · replace hf := if_t c_1 hf
    refine lv_iconst (v := 0) hx hb dJ1_canEncode_9a6ad_15 (by decide) ?_
    exact hend (0 : Int32) H locs _ _ hf hP hS dJ1_canEncode_9a6ad_16
  · replace hf := if_f c_1 hf
    refine lv_iload_n hx hb dJ1_canEncode_9a6ad_4 rfl (lv_at hl 0 rfl) ?_
    refine lv_sipush (v := 255) hx hb dJ1_canEncode_9a6ad_5 (by decide +kernel) ?_
    refine lv_icmp_gt (tgt := 15) hx hb dJ1_canEncode_9a6ad_8 (by decide) (fun c_2 => ?_) (fun c_2 => ?_)
    · replace hf := if_t c_2 hf
      refine lv_iconst (v := 0) hx hb dJ1_canEncode_9a6ad_15 (by decide) ?_
      exact hend (0 : Int32) H locs _ _ hf hP hS dJ1_canEncode_9a6ad_16
    · replace hf := if_f c_2 hf
      refine lv_iconst (v := 1) hx hb dJ1_canEncode_9a6ad_11 (by decide) ?_
      refine lv_goto (tgt := 16) hx hb dJ1_canEncode_9a6ad_12 (by decide) ?_
      exact hend (1 : Int32) H locs _ _ hf hP hS dJ1_canEncode_9a6ad_16

def rm_J1_indexOfChar_4cfef : Room := { frames := 0, cells := 0, slots := 0, locals := 0 }
theorem hd_J1_indexOfChar_4cfef : yJ1_indexOfChar_4cfef.cls ≠ "java/lang/invoke/MethodHandle" ∧ yJ1_indexOfChar_4cfef.cls ≠ "java/lang/invoke/VarHandle" ∧ (parseMethodDescriptor yJ1_indexOfChar_4cfef.desc).map (fun d => d.parameters.length) = some 4 := by decide +kernel
set_option maxRecDepth 100000 in
set_option maxHeartbeats 4000000 in
theorem c_J1_indexOfChar_4cfef (l : Launch) (D : va_G) (cI : ClassId) (adK adV : Nat → Nat) (i0 : Nat) (p2 : Int32) (p3 : Int32) (p4 : Int32) (r : Int32) (hf : f_J1_indexOfChar_4cfef i0 p2 p3 p4 = some r) : Cw l yJ1_indexOfChar_4cfef wsJ1_indexOfChar_4cfef rm_J1_indexOfChar_4cfef D cI adK adV [] [] [.ref (adV i0), .int p2, .int p3, .int p4] (some (.int r)) := by
  unfold f_J1_indexOfChar_4cfef at hf
  obtain ⟨hi_i0, hf⟩ := gd_e hf
  refine Cw.ofI (cc := cJ1_indexOfChar_4cfef) (maxL := 6) (by decide +kernel) rfl (Nat.le_of_ble_eq_true rfl) ?_
  intro p e s m args below meth c AA Q H locs ls hx hb hml hown hts hA hK hE hP hD hS hl hend0
  have hend : ∀ (r1 : Int32) (H : Heap) (locs : List Loc) (pc : Nat) (ls : Array Slot), some r1 = some r → va_P D vwCl [] H → va_S AA s.heap H locs → decode cJ1_indexOfChar_4cfef pc = .ok (.ireturn, 1) → W p l e rm_J1_indexOfChar_4cfef s m args below meth c H locs 0 0 Q (F0 m pc ls [.int r1]) := by
    intro r1 H locs pc ls e1 hP hS hd; cases e1; exact hend0 H locs pc ls hP hS hd
  clear hend0
  replace hl : lv_has ls 6 [(0, .ref (adV i0)), (1, .int p2), (2, .int p3), (3, .int p4)] := hl
  refine lv_iload_n hx hb dJ1_indexOfChar_4cfef_0 rfl (lv_at hl 1 rfl) ?_
  refine lv_i2b (v := (p2).toInt8.toInt32) hx hb dJ1_indexOfChar_4cfef_1 rfl ?_
  refine lv_topi (fun v_1 ev_1 => ?_)
  replace hf := nm_at ev_1 hf
  refine lv_istore (lv' := [(4, .int v_1), (0, .ref (adV i0)), (1, .int p2), (2, .int p3), (3, .int p4)]) hx hb dJ1_indexOfChar_4cfef_2 hl (by decide) rfl (fun ls hl => ?_)
  refine lv_iload_n hx hb dJ1_indexOfChar_4cfef_4 rfl (lv_at hl 3 rfl) ?_
  refine lv_istore (lv' := [(5, .int p3), (4, .int v_1), (0, .ref (adV i0)), (1, .int p2), (2, .int p3), (3, .int p4)]) hx hb dJ1_indexOfChar_4cfef_5 hl (by decide) rfl (fun ls hl => ?_)
  refine lp_ind (P := fun (q7 : Int32) => ∀ (H : Heap) (locs : List Loc) (ls : Array Slot), va_P D vwCl [] H → va_D AA [] → va_S AA s.heap H locs → lv_has ls 6 [(0, .ref (adV i0)), (3, .int p4), (4, .int v_1), (5, .int q7)] → W p l e rm_J1_indexOfChar_4cfef s m args below meth c H locs 0 0 Q (F0 m 7 ls [])) hf ?_ H locs ls hP hD hS (lv_sub hl [2, 5, 1, 0] rfl)
  clear hf hP hD hS hl
  intro nx7 ih7 q7 hf H locs ls hP hD hS hl
  refine lv_iload hx hb dJ1_indexOfChar_4cfef_7 (lv_at hl 3 rfl) ?_
  refine lv_iload_n hx hb dJ1_indexOfChar_4cfef_9 rfl (lv_at hl 1 rfl) ?_
  refine lv_icmp_ge (tgt := 31) hx hb dJ1_indexOfChar_4cfef_10 (by decide) (fun c_2 => ?_) (fun c_2 => ?_)
  · replace hf := if_t c_2 hf
    refine lv_iconst (v := -1) hx hb dJ1_indexOfChar_4cfef_31 (by decide) ?_
    exact hend (-1 : Int32) H locs _ _ hf hP hS dJ1_indexOfChar_4cfef_32
  · replace hf := if_f c_2 hf
    refine lv_aload_n hx hb dJ1_indexOfChar_4cfef_13 rfl (lv_at hl 0 rfl) ?_
    refine lv_iload hx hb dJ1_indexOfChar_4cfef_14 (lv_at hl 3 rfl) ?_
    obtain ⟨c_3, hf⟩ := gi_e hf
    refine va_tb hx hb (hE.1.1 _ hi_i0).2.2.2 hS c_3 rfl dJ1_indexOfChar_4cfef_16 ?_
    refine lv_iload hx hb dJ1_indexOfChar_4cfef_17 (lv_at hl 2 rfl) ?_
    refine lv_icmp_ne (tgt := 25) hx hb dJ1_indexOfChar_4cfef_19 (by decide) (fun c_4 => ?_) (fun c_4 => ?_)
    · replace hf := if_f c_4 hf
      obtain ⟨v_5, ev_5, hf⟩ := nq_e hf
      refine lv_iinc (v := v_5) (lv' := [(5, .int v_5), (0, .ref (adV i0)), (3, .int p4), (4, .int v_1)]) hx hb dJ1_indexOfChar_4cfef_25 hl (k := 3) rfl (by rw [ev_5]; rfl) (by decide) rfl (fun ls hl => ?_)
      refine lv_goto (tgt := 7) hx hb dJ1_indexOfChar_4cfef_28 (by decide) ?_
      exact ih7 v_5 hf H locs ls hP hD hS (lv_sub hl [1, 2, 3, 0] rfl)
    · replace hf := if_t c_4 hf
      refine lv_iload hx hb dJ1_indexOfChar_4cfef_22 (lv_at hl 3 rfl) ?_
      exact hend q7 H locs _ _ hf hP hS dJ1_indexOfChar_4cfef_24

def rm_J1_indexOf_4cfef : Room := { frames := 1, cells := 0, slots := 0, locals := 25 }
theorem hd_J1_indexOf_4cfef : yJ1_indexOf_4cfef.cls ≠ "java/lang/invoke/MethodHandle" ∧ yJ1_indexOf_4cfef.cls ≠ "java/lang/invoke/VarHandle" ∧ (parseMethodDescriptor yJ1_indexOf_4cfef.desc).map (fun d => d.parameters.length) = some 4 := by decide +kernel
set_option maxRecDepth 100000 in
set_option maxHeartbeats 4000000 in
theorem c_J1_indexOf_4cfef (l : Launch) (D : va_G) (cI : ClassId) (adK adV : Nat → Nat) (i0 : Nat) (p2 : Int32) (p3 : Int32) (p4 : Int32) (r : Int32) (hf : f_J1_indexOf_4cfef i0 p2 p3 p4 = some r) : Cw l yJ1_indexOf_4cfef wsJ1_indexOf_4cfef rm_J1_indexOf_4cfef D cI adK adV [] [] [.ref (adV i0), .int p2, .int p3, .int p4] (some (.int r)) := by
  unfold f_J1_indexOf_4cfef at hf
  obtain ⟨hi_i0, hf⟩ := gd_e hf
  refine Cw.ofI (cc := cJ1_indexOf_4cfef) (maxL := 4) (by decide +kernel) rfl (Nat.le_of_ble_eq_true rfl) ?_
  intro p e s m args below meth c AA Q H locs ls hx hb hml hown hts hA hK hE hP hD hS hl hend0
  have hend : ∀ (r1 : Int32) (H : Heap) (locs : List Loc) (pc : Nat) (ls : Array Slot), some r1 = some r → va_P D vwCl [] H → va_S AA s.heap H locs → decode cJ1_indexOf_4cfef pc = .ok (.ireturn, 1) → W p l e rm_J1_indexOf_4cfef s m args below meth c H locs 0 0 Q (F0 m pc ls [.int r1]) := by
    intro r1 H locs pc ls e1 hP hS hd; cases e1; exact hend0 H locs pc ls hP hS hd
  clear hend0
  have km38 := hts (.methodLink RJ1 38 Lib.Math.min.name) (by decide +kernel)
  have ks38 := hts (.static Lib.Math.min.name) (by decide +kernel)
  have ki38 := hts (.initialized "java/lang/Math") (by decide +kernel)
  have kk38 := hts (.code Lib.Math.min.name Lib.Math.min.code 2 (some .int)) (by decide +kernel)
  have km92 := hts (.methodLink RJ1 92 Lib.Math.max.name) (by decide +kernel)
  have ks92 := hts (.static Lib.Math.max.name) (by decide +kernel)
  have ki92 := hts (.initialized "java/lang/Math") (by decide +kernel)
  have kk92 := hts (.code Lib.Math.max.name Lib.Math.max.code 2 (some .int)) (by decide +kernel)
  replace hl : lv_has ls 4 [(0, .ref (adV i0)), (1, .int p2), (2, .int p3), (3, .int p4)] := hl
  refine lv_iload_n hx hb dJ1_indexOf_4cfef_0 rfl (lv_at hl 1 rfl) ?_
  obtain ⟨a_1, ha_1, hf⟩ := bd_e hf
  refine Cw.callS (As := [.int p2]) (rest := []) (st1 := [.int a_1]) (c_J1_canEncode_9a6ad l D cI adK adV  p2 a_1 ha_1) hE hx hb hml hown hts (va_cwS 1 hts gJ1_indexOf_4cfef_J1_canEncode_9a6ad rfl rfl rfl hd_J1_canEncode_9a6ad ⟨Nat.le_of_ble_eq_true rfl, Nat.le_of_ble_eq_true rfl⟩) (Ln.id rfl) hA hK hP hD hS rfl hl.1 rfl rfl (Nat.le_of_ble_eq_true rfl) dJ1_indexOf_4cfef_1 (fun H locs hP hD hS => ?_)
  refine lv_if_ne (tgt := 9) hx hb dJ1_indexOf_4cfef_4 (by decide) (fun c_2 => ?_) (fun c_2 => ?_)
  · replace hf := if_f c_2 hf
    refine lv_iload_n hx hb dJ1_indexOf_4cfef_9 rfl (lv_at hl 2 rfl) ?_
    refine lv_iconst (v := 0) hx hb dJ1_indexOf_4cfef_10 (by decide) ?_
    refine va_mmax hx hb (by rw [hml]; exact hl.1.symm) hown km92 ks92 ki92 kk92 (Nat.le_of_ble_eq_true rfl) (Nat.le_of_ble_eq_true rfl) (Nat.zero_le _) (Nat.zero_le _) dJ1_indexOf_4cfef_11 ?_
    refine lv_topi (fun v_3 ev_3 => ?_)
    replace hf := nm_at ev_3 hf
    refine lv_istore_n (lv' := [(2, .int v_3), (0, .ref (adV i0)), (1, .int p2), (3, .int p4)]) hx hb dJ1_indexOf_4cfef_14 rfl hl (by decide) rfl (fun ls hl => ?_)
    refine lv_iload_n hx hb dJ1_indexOf_4cfef_15 rfl (lv_at hl 3 rfl) ?_
    refine lv_aload_n hx hb dJ1_indexOf_4cfef_16 rfl (lv_at hl 1 rfl) ?_
    refine va_tlen hx hb (hE.1.1 _ hi_i0).2.2.2 hS rfl dJ1_indexOf_4cfef_17 ?_
    refine va_mmin hx hb (by rw [hml]; exact hl.1.symm) hown km38 ks38 ki38 kk38 (Nat.le_of_ble_eq_true rfl) (Nat.le_of_ble_eq_true rfl) (Nat.zero_le _) (Nat.zero_le _) dJ1_indexOf_4cfef_18 ?_
    refine lv_topi (fun v_4 ev_4 => ?_)
    replace hf := nm_at ev_4 hf
    refine lv_istore_n (lv' := [(3, .int v_4), (2, .int v_3), (0, .ref (adV i0)), (1, .int p2)]) hx hb dJ1_indexOf_4cfef_21 rfl hl (by decide) rfl (fun ls hl => ?_)
    refine lv_iload_n hx hb dJ1_indexOf_4cfef_22 rfl (lv_at hl 1 rfl) ?_
    refine lv_iload_n hx hb dJ1_indexOf_4cfef_23 rfl (lv_at hl 0 rfl) ?_
    refine lv_icmp_lt (tgt := 29) hx hb dJ1_indexOf_4cfef_24 (by decide) (fun c_5 => ?_) (fun c_5 => ?_)
    · replace hf := if_t c_5 hf
      refine lv_aload_n hx hb dJ1_indexOf_4cfef_29 rfl (lv_at hl 2 rfl) ?_
      refine lv_iload_n hx hb dJ1_indexOf_4cfef_30 rfl (lv_at hl 3 rfl) ?_
      refine lv_iload_n hx hb dJ1_indexOf_4cfef_31 rfl (lv_at hl 1 rfl) ?_
      refine lv_iload_n hx hb dJ1_indexOf_4cfef_32 rfl (lv_at hl 0 rfl) ?_
      obtain ⟨a_6, ha_6, hf⟩ := bd_e hf
      refine Cw.callS (As := [.ref (adV i0), .int p2, .int v_3, .int v_4]) (rest := []) (st1 := [.int a_6]) (c_J1_indexOfChar_4cfef l D cI adK adV  i0 p2 v_3 v_4 a_6 ha_6) hE hx hb hml hown hts (va_cwS 4 hts gJ1_indexOf_4cfef_J1_indexOfChar_4cfef rfl rfl rfl hd_J1_indexOfChar_4cfef ⟨Nat.le_of_ble_eq_true rfl, Nat.le_of_ble_eq_true rfl⟩) (Ln.id rfl) hA hK hP hD hS rfl hl.1 rfl rfl (Nat.le_of_ble_eq_true rfl) dJ1_indexOf_4cfef_33 (fun H locs hP hD hS => ?_)
      exact hend a_6 H locs _ _ hf hP hS dJ1_indexOf_4cfef_36
    · replace hf := if_f c_5 hf
      refine lv_iconst (v := -1) hx hb dJ1_indexOf_4cfef_27 (by decide) ?_
      exact hend (-1 : Int32) H locs _ _ hf hP hS dJ1_indexOf_4cfef_28
  · replace hf := if_t c_2 hf
    refine lv_iconst (v := -1) hx hb dJ1_indexOf_4cfef_7 (by decide) ?_
    exact hend (-1 : Int32) H locs _ _ hf hP hS dJ1_indexOf_4cfef_8

def rm_J0_indexOf_7cf53 : Room := { frames := 2, cells := 0, slots := 0, locals := 48 }
theorem hd_J0_indexOf_7cf53 : yJ0_indexOf_7cf53.cls = RJ0 ∧ yJ0_indexOf_7cf53.cls ≠ "java/lang/invoke/MethodHandle" ∧ yJ0_indexOf_7cf53.cls ≠ "java/lang/invoke/VarHandle" ∧ (parseMethodDescriptor yJ0_indexOf_7cf53.desc).map (fun d => d.parameters.length) = some 2 := by decide +kernel
set_option maxRecDepth 100000 in
set_option maxHeartbeats 4000000 in
theorem c_J0_indexOf_7cf53 (l : Launch) (D : va_G) (cI : ClassId) (adK adV : Nat → Nat) (i0 : Nat) (p1 : Int32) (p2 : Int32) (r : Int32) (hf : f_J0_indexOf_7cf53 i0 p1 p2 = some r) : Cw l yJ0_indexOf_7cf53 wsJ0_indexOf_7cf53 rm_J0_indexOf_7cf53 D cI adK adV [] [] [.ref (adK i0), .int p1, .int p2] (some (.int r)) := by
  unfold f_J0_indexOf_7cf53 at hf
  obtain ⟨hi_i0, hf⟩ := gd_e hf
  refine Cw.ofI (cc := cJ0_indexOf_7cf53) (maxL := 3) (by decide +kernel) rfl (Nat.le_of_ble_eq_true rfl) ?_
  intro p e s m args below meth c AA Q H locs ls hx hb hml hown hts hA hK hE hP hD hS hl hend0
  have hend : ∀ (r1 : Int32) (H : Heap) (locs : List Loc) (pc : Nat) (ls : Array Slot), some r1 = some r → va_P D vwCl [] H → va_S AA s.heap H locs → decode cJ0_indexOf_7cf53 pc = .ok (.ireturn, 1) → W p l e rm_J0_indexOf_7cf53 s m args below meth c H locs 0 0 Q (F0 m pc ls [.int r1]) := by
    intro r1 H locs pc ls e1 hP hS hd; cases e1; exact hend0 H locs pc ls hP hS hd
  clear hend0
  have k9 := hts (.fieldLink RJ0 9 "java/lang/String" "value" "[B") (by decide +kernel)
  replace hl : lv_has ls 3 [(0, .ref (adK i0)), (1, .int p1), (2, .int p2)] := hl
  refine lv_aload_n hx hb dJ0_indexOf_7cf53_0 rfl (lv_at hl 0 rfl) ?_
  obtain ⟨a_1, ha_1, hf⟩ := bd_e hf
  obtain ⟨ca_1, hf⟩ := gd_e hf
  subst ca_1
  refine Cw.callV (As := []) (rest := []) (st1 := [.int (1 : Int32)]) (c_J0_isLatin1_aae02 l D cI adK adV  i0 (1 : Int32) ha_1) hE hx hb hml hown hts (cwV 0 hts gJ0_indexOf_7cf53_J0_isLatin1_aae02 rfl rfl rfl hd_J0_isLatin1_aae02 ⟨Nat.le_of_ble_eq_true rfl, Nat.le_of_ble_eq_true rfl⟩) (vk_recv hE.1 hi_i0 hS) (Ln.id rfl) hA hK hP hD hS rfl hl.1 rfl rfl (Nat.le_of_ble_eq_true rfl) dJ0_indexOf_7cf53_1 (fun H locs hP hD hS => ?_)
  refine lv_if_eq (tgt := 23) hx hb dJ0_indexOf_7cf53_4 (by decide) (fun c0 => absurd c0 (by decide)) (fun _ => ?_)
  refine lv_aload_n hx hb dJ0_indexOf_7cf53_7 rfl (lv_at hl 0 rfl) ?_
  refine vk_getf hx hb (hE.1.1 _ hi_i0).2.2.1 hS hown k9 (fun _ h9 => h9) dJ0_indexOf_7cf53_8 ?_
  refine lv_iload_n hx hb dJ0_indexOf_7cf53_11 rfl (lv_at hl 1 rfl) ?_
  refine lv_iload_n hx hb dJ0_indexOf_7cf53_12 rfl (lv_at hl 2 rfl) ?_
  refine lv_aload_n hx hb dJ0_indexOf_7cf53_13 rfl (lv_at hl 0 rfl) ?_
  obtain ⟨a_2, ha_2, hf⟩ := bd_e hf
  refine Cw.callV (As := []) (rest := [.int p2, .int p1, .ref (adV i0)]) (st1 := [.int a_2, .int p2, .int p1, .ref (adV i0)]) (c_J0_length_8abf5 l D cI adK adV  i0 a_2 ha_2) hE hx hb hml hown hts (cwV 0 hts gJ0_indexOf_7cf53_J0_length_8abf5 rfl rfl rfl hd_J0_length_8abf5 ⟨Nat.le_of_ble_eq_true rfl, Nat.le_of_ble_eq_true rfl⟩) (vk_recv hE.1 hi_i0 hS) (Ln.id rfl) hA hK hP hD hS rfl hl.1 rfl rfl (Nat.le_of_ble_eq_true rfl) dJ0_indexOf_7cf53_14 (fun H locs hP hD hS => ?_)
  obtain ⟨a_3, ha_3, hf⟩ := bd_e hf
  refine Cw.callS (As := [.ref (adV i0), .int p1, .int p2, .int a_2]) (rest := []) (st1 := [.int a_3]) (c_J1_indexOf_4cfef l D cI adK adV  i0 p1 p2 a_2 a_3 ha_3) hE hx hb hml hown hts (va_cwS 4 hts gJ0_indexOf_7cf53_J1_indexOf_4cfef rfl rfl rfl hd_J1_indexOf_4cfef ⟨Nat.le_of_ble_eq_true rfl, Nat.le_of_ble_eq_true rfl⟩) (Ln.id rfl) hA hK hP hD hS rfl hl.1 rfl rfl (Nat.le_of_ble_eq_true rfl) dJ0_indexOf_7cf53_17 (fun H locs hP hD hS => ?_)
  refine lv_goto (tgt := 36) hx hb dJ0_indexOf_7cf53_20 (by decide) ?_
  exact hend a_3 H locs _ _ hf hP hS dJ0_indexOf_7cf53_36

def rm_J0_indexOf_0f7a4 : Room := { frames := 3, cells := 0, slots := 0, locals := 70 }
theorem hd_J0_indexOf_0f7a4 : yJ0_indexOf_0f7a4.cls = RJ0 ∧ yJ0_indexOf_0f7a4.cls ≠ "java/lang/invoke/MethodHandle" ∧ yJ0_indexOf_0f7a4.cls ≠ "java/lang/invoke/VarHandle" ∧ (parseMethodDescriptor yJ0_indexOf_0f7a4.desc).map (fun d => d.parameters.length) = some 1 := by decide +kernel
set_option maxRecDepth 100000 in
set_option maxHeartbeats 4000000 in
theorem c_J0_indexOf_0f7a4 (l : Launch) (D : va_G) (cI : ClassId) (adK adV : Nat → Nat) (i0 : Nat) (p1 : Int32) (r : Int32) (hf : f_J0_indexOf_0f7a4 i0 p1 = some r) : Cw l yJ0_indexOf_0f7a4 wsJ0_indexOf_0f7a4 rm_J0_indexOf_0f7a4 D cI adK adV [] [] [.ref (adK i0), .int p1] (some (.int r)) := by
  unfold f_J0_indexOf_0f7a4 at hf
  obtain ⟨hi_i0, hf⟩ := gd_e hf
  refine Cw.ofI (cc := cJ0_indexOf_0f7a4) (maxL := 2) (by decide +kernel) rfl (Nat.le_of_ble_eq_true rfl) ?_
  intro p e s m args below meth c AA Q H locs ls hx hb hml hown hts hA hK hE hP hD hS hl hend0
  have hend : ∀ (r1 : Int32) (H : Heap) (locs : List Loc) (pc : Nat) (ls : Array Slot), some r1 = some r → va_P D vwCl [] H → va_S AA s.heap H locs → decode cJ0_indexOf_0f7a4 pc = .ok (.ireturn, 1) → W p l e rm_J0_indexOf_0f7a4 s m args below meth c H locs 0 0 Q (F0 m pc ls [.int r1]) := by
    intro r1 H locs pc ls e1 hP hS hd; cases e1; exact hend0 H locs pc ls hP hS hd
  clear hend0
  replace hl : lv_has ls 2 [(0, .ref (adK i0)), (1, .int p1)] := hl
  refine lv_aload_n hx hb dJ0_indexOf_0f7a4_0 rfl (lv_at hl 0 rfl) ?_
  refine lv_iload_n hx hb dJ0_indexOf_0f7a4_1 rfl (lv_at hl 1 rfl) ?_
  refine lv_iconst (v := 0) hx hb dJ0_indexOf_0f7a4_2 (by decide) ?_
  obtain ⟨a_1, ha_1, hf⟩ := bd_e hf
  refine Cw.callV (As := [.int p1, .int (0 : Int32)]) (rest := []) (st1 := [.int a_1]) (c_J0_indexOf_7cf53 l D cI adK adV  i0 p1 (0 : Int32) a_1 ha_1) hE hx hb hml hown hts (cwV 2 hts gJ0_indexOf_0f7a4_J0_indexOf_7cf53 rfl rfl rfl hd_J0_indexOf_7cf53 ⟨Nat.le_of_ble_eq_true rfl, Nat.le_of_ble_eq_true rfl⟩) (vk_recv hE.1 hi_i0 hS) (Ln.id rfl) hA hK hP hD hS rfl hl.1 rfl rfl (Nat.le_of_ble_eq_true rfl) dJ0_indexOf_0f7a4_3 (fun H locs hP hD hS => ?_)
  exact hend a_1 H locs _ _ hf hP hS dJ0_indexOf_0f7a4_6

def rm_X1_kindOf : Room := { frames := 4, cells := 0, slots := 0, locals := 91 }
theorem hd_X1_kindOf : yX1_kindOf.cls ≠ "java/lang/invoke/MethodHandle" ∧ yX1_kindOf.cls ≠ "java/lang/invoke/VarHandle" ∧ (parseMethodDescriptor yX1_kindOf.desc).map (fun d => d.parameters.length) = some 1 := by decide +kernel
set_option maxRecDepth 100000 in
set_option maxHeartbeats 4000000 in
theorem c_X1_kindOf (l : Launch) (D : va_G) (cI : ClassId) (adK adV : Nat → Nat) (p1 : Int32) (r : Int32) (hf : f_X1_kindOf p1 = some r) : Cw l yX1_kindOf wsX1_kindOf rm_X1_kindOf D cI adK adV [] [] [.int p1] (some (.int r)) := by
  unfold f_X1_kindOf at hf
  refine Cw.ofI (cc := cX1_kindOf) (maxL := 1) (by decide +kernel) rfl (Nat.le_of_ble_eq_true rfl) ?_
  intro p e s m args below meth c AA Q H locs ls hx hb hml hown hts hA hK hE hP hD hS hl hend0
  have hend : ∀ (r1 : Int32) (H : Heap) (locs : List Loc) (pc : Nat) (ls : Array Slot), some r1 = some r → va_P D vwCl [] H → va_S AA s.heap H locs → decode cX1_kindOf pc = .ok (.ireturn, 1) → W p l e rm_X1_kindOf s m args below meth c H locs 0 0 Q (F0 m pc ls [.int r1]) := by
    intro r1 H locs pc ls e1 hP hS hd; cases e1; exact hend0 H locs pc ls hP hS hd
  clear hend0
  replace hl : lv_has ls 1 [(0, .int p1)] := hl
  refine va_ldcS hx hb hown hE.2.2.2.2.1 dX1_kindOf_0 ?_
  refine lv_iload_n hx hb dX1_kindOf_2 rfl (lv_at hl 0 rfl) ?_
  refine lv_i2c (v := ((p1).toUInt32 % 65536).toInt32) hx hb dX1_kindOf_3 rfl ?_
  obtain ⟨a_1, ha_1, hf⟩ := bd_e hf
  have hi_1 : 1 < 5 := (f_J0_indexOf_0f7a4_lt ha_1)
  refine Cw.callV (As := [.int ((p1).toUInt32 % 65536).toInt32]) (rest := []) (st1 := [.int a_1]) (c_J0_indexOf_0f7a4 l D cI adK adV  1 ((p1).toUInt32 % 65536).toInt32 a_1 ha_1) hE hx hb hml hown hts (cwV 1 hts gX1_kindOf_J0_indexOf_0f7a4 rfl rfl rfl hd_J0_indexOf_0f7a4 ⟨Nat.le_of_ble_eq_true rfl, Nat.le_of_ble_eq_true rfl⟩) (vk_recv hE.1 hi_1 hS) (Ln.id rfl) hA hK hP hD hS rfl hl.1 rfl rfl (Nat.le_of_ble_eq_true rfl) dX1_kindOf_4 (fun H locs hP hD hS => ?_)
  exact hend a_1 H locs _ _ hf hP hS dX1_kindOf_7

def rm_X1_partsBehind : Room := { frames := 0, cells := 0, slots := 0, locals := 0 }
theorem hd_X1_partsBehind : yX1_partsBehind.cls ≠ "java/lang/invoke/MethodHandle" ∧ yX1_partsBehind.cls ≠ "java/lang/invoke/VarHandle" ∧ (parseMethodDescriptor yX1_partsBehind.desc).map (fun d => d.parameters.length) = some 1 := by decide +kernel
set_option maxRecDepth 100000 in
set_option maxHeartbeats 4000000 in
theorem c_X1_partsBehind (l : Launch) (D : va_G) (cI : ClassId) (adK adV : Nat → Nat) (p1 : Int32) (r : Nat) (hf : f_X1_partsBehind p1 = some r) : Cw l yX1_partsBehind wsX1_partsBehind rm_X1_partsBehind D cI adK adV [] [] [.int p1] (some (.ref (adK r))) := by
  unfold f_X1_partsBehind at hf
  refine Cw.ofR (cc := cX1_partsBehind) (maxL := 1) (by decide +kernel) rfl (Nat.le_of_ble_eq_true rfl) ?_
  intro p e s m args below meth c AA Q H locs ls hx hb hml hown hts hA hK hE hP hD hS hl hend0
  have hend : ∀ (r1 : Nat) (H : Heap) (locs : List Loc) (pc : Nat) (ls : Array Slot), some r1 = some r → va_P D vwCl [] H → va_S AA s.heap H locs → decode cX1_partsBehind pc = .ok (.areturn, 1) → W p l e rm_X1_partsBehind s m args below meth c H locs 0 0 Q (F0 m pc ls [.ref (adK r1)]) := by
    intro r1 H locs pc ls e1 hP hS hd; cases e1; exact hend0 H locs pc ls hP hS hd
  clear hend0
  replace hl : lv_has ls 1 [(0, .int p1)] := hl
  refine lv_iload_n hx hb dX1_partsBehind_0 rfl (lv_at hl 0 rfl) ?_
  by_cases c_1 : p1 = 98
  · replace hf := if_t c_1 hf
    refine lv_lookup (off := 68) (tgt := 69) hx hb dX1_partsBehind_1 (by decide) (by rw [c_1]; decide +kernel) (by decide) ?_
    refine va_ldcS hx hb hown hE.2.2.2.2.2.2.2 dX1_partsBehind_69 ?_
    exact hend 4 H locs _ _ hf hP hS dX1_partsBehind_71
  · replace hf := if_f c_1 hf
    by_cases c_2 : p1 = 109
    · replace hf := if_t c_2 hf
      refine lv_lookup (off := 62) (tgt := 63) hx hb dX1_partsBehind_1 (by decide) (by rw [c_2]; decide +kernel) (by decide) ?_
      refine va_ldcS hx hb hown hE.2.2.2.2.2.2.1 dX1_partsBehind_63 ?_
      exact hend 3 H locs _ _ hf hP hS dX1_partsBehind_65
    · replace hf := if_f c_2 hf
      by_cases c_3 : p1 = 115
      · replace hf := if_t c_3 hf
        refine lv_lookup (off := 59) (tgt := 60) hx hb dX1_partsBehind_1 (by decide) (by rw [c_3]; decide +kernel) (by decide) ?_
        refine va_ldcS hx hb hown hE.2.2.2.2.2.1 dX1_partsBehind_60 ?_
        exact hend 2 H locs _ _ hf hP hS dX1_partsBehind_62
      · replace hf := if_f c_3 hf
        by_cases c_4 : p1 = 116
        · replace hf := if_t c_4 hf
          refine lv_lookup (off := 65) (tgt := 66) hx hb dX1_partsBehind_1 (by decide) (by rw [c_4]; decide +kernel) (by decide) ?_
          refine va_ldcS hx hb hown hE.2.2.2.2.2.1 dX1_partsBehind_66 ?_
          exact hend 2 H locs _ _ hf hP hS dX1_partsBehind_68
        · replace hf := if_f c_4 hf
          by_cases c_5 : p1 = 118
          · replace hf := if_t c_5 hf
            refine lv_lookup (off := 71) (tgt := 72) hx hb dX1_partsBehind_1 (by decide) (by rw [c_5]; decide +kernel) (by decide) ?_
            refine va_ldcS hx hb hown hE.2.2.2.2.2.2.2 dX1_partsBehind_72 ?_
            exact hend 4 H locs _ _ hf hP hS dX1_partsBehind_74
          · replace hf := if_f c_5 hf
            by_cases c_6 : p1 = 119
            · replace hf := if_t c_6 hf
              refine lv_lookup (off := 74) (tgt := 75) hx hb dX1_partsBehind_1 (by decide) (by rw [c_6]; decide +kernel) (by decide) ?_
              refine va_ldcS hx hb hown hE.2.2.2.2.2.2.2 dX1_partsBehind_75 ?_
              exact hend 4 H locs _ _ hf hP hS dX1_partsBehind_77
            · replace hf := if_f c_6 hf
              refine lv_lookup (off := 77) (tgt := 78) hx hb dX1_partsBehind_1 (by decide) (by show Op.lookupswitch.offset [(98, 68), (109, 62), (115, 59), (116, 65), (118, 71), (119, 74)] 77 _ = _; rw [lv_osw c_1 (by decide +kernel), lv_osw c_2 (by decide +kernel), lv_osw c_3 (by decide +kernel), lv_osw c_4 (by decide +kernel), lv_osw c_5 (by decide +kernel), lv_osw c_6 (by decide +kernel)]; rfl) (by decide) ?_
              refine va_ldcS hx hb hown hE.2.2.2.1 dX1_partsBehind_78 ?_
              exact hend 0 H locs _ _ hf hP hS dX1_partsBehind_80

def rm_X1_fits : Room := { frames := 5, cells := 0, slots := 0, locals := 111 }
theorem hd_X1_fits : yX1_fits.cls ≠ "java/lang/invoke/MethodHandle" ∧ yX1_fits.cls ≠ "java/lang/invoke/VarHandle" ∧ (parseMethodDescriptor yX1_fits.desc).map (fun d => d.parameters.length) = some 2 := by decide +kernel
set_option maxRecDepth 100000 in
set_option maxHeartbeats 4000000 in
theorem c_X1_fits (l : Launch) (D : va_G) (cI : ClassId) (adK adV : Nat → Nat) (p1 : Int32) (p2 : Int32) (r : Int32) (hf : f_X1_fits p1 p2 = some r) : Cw l yX1_fits wsX1_fits rm_X1_fits D cI adK adV [] [] [.int p1, .int p2] (some (.int r)) := by
  unfold f_X1_fits at hf
  obtain ⟨hz0, hf⟩ := fz_e hf
  refine Cw.ofN (nar_b hz0) (cc := cX1_fits) (maxL := 2) (by decide +kernel) rfl (Nat.le_of_ble_eq_true rfl) ?_
  intro p e s m args below meth c AA Q H locs ls hx hb hml hown hts hA hK hE hP hD hS hl hend0
  have hend : ∀ (r1 : Int32) (H : Heap) (locs : List Loc) (pc : Nat) (ls : Array Slot), some r1 = some r → va_P D vwCl [] H → va_S AA s.heap H locs → decode cX1_fits pc = .ok (.ireturn, 1) → W p l e rm_X1_fits s m args below meth c H locs 0 0 Q (F0 m pc ls [.int r1]) := by
    intro r1 H locs pc ls e1 hP hS hd; cases e1; exact hend0 H locs pc ls hP hS hd
  clear hend0
  replace hl : lv_has ls 2 [(0, .int p1), (1, .int p2)] := hl
  refine lv_iload_n hx hb dX1_fits_0 rfl (lv_at hl 1 rfl) ?_
  by_cases c_1 : p2 = 57
  · replace hf := if_t c_1 hf
    refine lv_lookup (off := 40) (tgt := 41) hx hb dX1_fits_1 (by decide) (by rw [c_1]; decide +kernel) (by decide) ?_
    refine lv_iload_n hx hb dX1_fits_41 rfl (lv_at hl 0 rfl) ?_
    refine lv_bipush (v := 48) hx hb dX1_fits_42 (by decide +kernel) ?_
    refine lv_icmp_lt (tgt := 57) hx hb dX1_fits_44 (by decide) (fun c_2 => ?_) (fun c_2 => ?_)
    · replace hf := if_t c_2 hf
      refine lv_iconst (v := 0) hx hb dX1_fits_57 (by decide) ?_
      exact hend (0 : Int32) H locs _ _ hf hP hS dX1_fits_58
    · replace hf := if_f c_2 hf
      refine lv_iload_n hx hb dX1_fits_47 rfl (lv_at hl 0 rfl) ?_
      refine lv_bipush (v := 57) hx hb dX1_fits_48 (by decide +kernel) ?_
      refine lv_icmp_gt (tgt := 57) hx hb dX1_fits_50 (by decide) (fun c_3 => ?_) (fun c_3 => ?_)
      · replace hf := if_t c_3 hf
        refine lv_iconst (v := 0) hx hb dX1_fits_57 (by decide) ?_
        exact hend (0 : Int32) H locs _ _ hf hP hS dX1_fits_58
      · replace hf := if_f c_3 hf
        refine lv_iconst (v := 1) hx hb dX1_fits_53 (by decide) ?_
        refine lv_goto (tgt := 58) hx hb dX1_fits_54 (by decide) ?_
        exact hend (1 : Int32) H locs _ _ hf hP hS dX1_fits_58
  · replace hf := if_f c_1 hf
    by_cases c_4 : p2 = 107
    · replace hf := if_t c_4 hf
      refine lv_lookup (off := 27) (tgt := 28) hx hb dX1_fits_1 (by decide) (by rw [c_4]; decide +kernel) (by decide) ?_
      refine lv_iload_n hx hb dX1_fits_28 rfl (lv_at hl 0 rfl) ?_
      obtain ⟨a_5, ha_5, hf⟩ := bd_e hf
      refine Cw.callS (As := [.int p1]) (rest := []) (st1 := [.int a_5]) (c_X1_kindOf l D cI adK adV  p1 a_5 ha_5) hE hx hb hml hown hts (va_cwS 1 hts gX1_fits_X1_kindOf rfl rfl rfl hd_X1_kindOf ⟨Nat.le_of_ble_eq_true rfl, Nat.le_of_ble_eq_true rfl⟩) (Ln.id rfl) hA hK hP hD hS rfl hl.1 rfl rfl (Nat.le_of_ble_eq_true rfl) dX1_fits_29 (fun H locs hP hD hS => ?_)
      refine lv_if_lt (tgt := 39) hx hb dX1_fits_32 (by decide) (fun c_6 => ?_) (fun c_6 => ?_)
      · replace hf := if_t c_6 hf
        refine lv_iconst (v := 0) hx hb dX1_fits_39 (by decide) ?_
        exact hend (0 : Int32) H locs _ _ hf hP hS dX1_fits_40
      · replace hf := if_f c_6 hf
        refine lv_iconst (v := 1) hx hb dX1_fits_35 (by decide) ?_
        refine lv_goto (tgt := 40) hx hb dX1_fits_36 (by decide) ?_
        exact hend (1 : Int32) H locs _ _ hf hP hS dX1_fits_40
    · replace hf := if_f c_4 hf
      refine lv_lookup (off := 58) (tgt := 59) hx hb dX1_fits_1 (by decide) (by show Op.lookupswitch.offset [(57, 40), (107, 27)] 58 _ = _; rw [lv_osw c_1 (by decide +kernel), lv_osw c_4 (by decide +kernel)]; rfl) (by decide) ?_
      refine lv_iload_n hx hb dX1_fits_59 rfl (lv_at hl 0 rfl) ?_
      refine lv_iload_n hx hb dX1_fits_60 rfl (lv_at hl 1 rfl) ?_
      refine lv_icmp_ne (tgt := 68) hx hb dX1_fits_61 (by decide) (fun c_7 => ?_) (fun c_7 => ?_)
      · replace hf := if_f c_7 hf
        refine lv_iconst (v := 0) hx hb dX1_fits_68 (by decide) ?_
        exact hend (0 : Int32) H locs _ _ hf hP hS dX1_fits_69
      · replace hf := if_t c_7 hf
        refine lv_iconst (v := 1) hx hb dX1_fits_64 (by decide) ?_
        refine lv_goto (tgt := 69) hx hb dX1_fits_65 (by decide) ?_
        exact hend (1 : Int32) H locs _ _ hf hP hS dX1_fits_69

def rm_X1_firstThatCanNotGoOn : Room := { frames := 6, cells := 0, slots := 0, locals := 132 }
theorem hd_X1_firstThatCanNotGoOn : yX1_firstThatCanNotGoOn.cls = RX1 ∧ yX1_firstThatCanNotGoOn.cls ≠ "java/lang/invoke/MethodHandle" ∧ yX1_firstThatCanNotGoOn.cls ≠ "java/lang/invoke/VarHandle" ∧ (parseMethodDescriptor yX1_firstThatCanNotGoOn.desc).map (fun d => d.parameters.length) = some 0 := by decide +kernel
set_option maxRecDepth 100000 in
set_option maxHeartbeats 4000000 in
theorem c_X1_firstThatCanNotGoOn (l : Launch) (D : va_G) (cI : ClassId) (adK adV : Nat → Nat) (A : Nat → Nat) (g : St) (r : Int32) (hf : f_X1_firstThatCanNotGoOn g = some r) : Cw l yX1_firstThatCanNotGoOn wsX1_firstThatCanNotGoOn rm_X1_firstThatCanNotGoOn D cI adK adV (cG cI A g) (cG cI A g) [.ref (A 0)] (some (.int r)) := by
  unfold f_X1_firstThatCanNotGoOn at hf
  refine Cw.ofI (cc := cX1_firstThatCanNotGoOn) (maxL := 4) (by decide +kernel) rfl (Nat.le_of_ble_eq_true rfl) ?_
  intro p e s m args below meth c AA Q H locs ls hx hb hml hown hts hA hK hE hP hD hS hl hend0
  have hend : ∀ (r1 : Int32) (H : Heap) (locs : List Loc) (pc : Nat) (ls : Array Slot), some r1 = some r → va_P D vwCl (cG cI A g) H → va_S AA s.heap H locs → decode cX1_firstThatCanNotGoOn pc = .ok (.ireturn, 1) → W p l e rm_X1_firstThatCanNotGoOn s m args below meth c H locs 0 0 Q (F0 m pc ls [.int r1]) := by
    intro r1 H locs pc ls e1 hP hS hd; cases e1; exact hend0 H locs pc ls hP hS hd
  clear hend0
  have hw1 : ∀ w ∈ wsX10, w ∈ wsX1_firstThatCanNotGoOn := by decide +kernel
  have k11 := hts (.fieldLink RX1 11 "AnchorsForConfession$Letters" "signs" "[I") (by decide +kernel)
  have k15 := hts (.fieldLink RX1 15 "AnchorsForConfession$Letters" "size" "I") (by decide +kernel)
  replace hl : lv_has ls 4 [(0, .ref (A 0))] := hl
  refine va_ldcS hx hb hown hE.2.2.2.1 dX1_firstThatCanNotGoOn_0 ?_
  refine lv_astore_n (lv' := [(1, .ref (adK 0)), (0, .ref (A 0))]) hx hb dX1_firstThatCanNotGoOn_2 rfl hl (by decide) rfl (fun ls hl => ?_)
  refine lv_iconst (v := 0) hx hb dX1_firstThatCanNotGoOn_3 (by decide) ?_
  refine lv_istore_n (lv' := [(2, .int (0 : Int32)), (1, .ref (adK 0)), (0, .ref (A 0))]) hx hb dX1_firstThatCanNotGoOn_4 rfl hl (by decide) rfl (fun ls hl => ?_)
  refine lv_iconst (v := 0) hx hb dX1_firstThatCanNotGoOn_5 (by decide) ?_
  refine lv_istore_n (lv' := [(3, .int (0 : Int32)), (2, .int (0 : Int32)), (1, .ref (adK 0)), (0, .ref (A 0))]) hx hb dX1_firstThatCanNotGoOn_6 rfl hl (by decide) rfl (fun ls hl => ?_)
  refine lp_ind (P := fun (q7 : Nat × Int32 × Int32) => ∀ (H : Heap) (locs : List Loc) (ls : Array Slot), va_P D vwCl (cG cI A g) H → va_D AA (cG cI A g) → va_S AA s.heap H locs → lv_has ls 4 [(0, .ref (A 0)), (1, .ref (adK q7.1)), (2, .int q7.2.1), (3, .int q7.2.2)] → W p l e rm_X1_firstThatCanNotGoOn s m args below meth c H locs 0 0 Q (F0 m 7 ls [])) hf ?_ H locs ls hP hD hS (lv_sub hl [3, 2, 1, 0] rfl)
  clear hf hP hD hS hl
  intro nx7 ih7 q7 hf H locs ls hP hD hS hl
  refine lv_iload_n hx hb dX1_firstThatCanNotGoOn_7 rfl (lv_at hl 3 rfl) ?_
  refine lv_aload_n hx hb dX1_firstThatCanNotGoOn_8 rfl (lv_at hl 0 rfl) ?_
  refine va_get (D := D) (ci := 1) (v := .int (g 1 0)) (C := RX1) (T := TX1) (N := 2) hx hb hts hw1 hown hK hP 0 cG_at0 rfl 1 (by decide) k15 (fun _ h9 => h9) rfl dX1_firstThatCanNotGoOn_9 ?_
  refine lv_icmp_ge (tgt := 75) hx hb dX1_firstThatCanNotGoOn_12 (by decide) (fun c_1 => ?_) (fun c_1 => ?_)
  · replace hf := if_t c_1 hf
    refine lv_aload_n hx hb dX1_firstThatCanNotGoOn_75 rfl (lv_at hl 0 rfl) ?_
    refine va_get (D := D) (ci := 1) (v := .int (g 1 0)) (C := RX1) (T := TX1) (N := 2) hx hb hts hw1 hown hK hP 0 cG_at0 rfl 1 (by decide) k15 (fun _ h9 => h9) rfl dX1_firstThatCanNotGoOn_76 ?_
    refine lv_if_eq (tgt := 90) hx hb dX1_firstThatCanNotGoOn_79 (by decide) (fun c_2 => ?_) (fun c_2 => ?_)
    · replace hf := if_t c_2 hf
      refine lv_aload_n hx hb dX1_firstThatCanNotGoOn_90 rfl (lv_at hl 0 rfl) ?_
      refine va_get (D := D) (ci := 1) (v := .int (g 1 0)) (C := RX1) (T := TX1) (N := 2) hx hb hts hw1 hown hK hP 0 cG_at0 rfl 1 (by decide) k15 (fun _ h9 => h9) rfl dX1_firstThatCanNotGoOn_91 ?_
      refine lv_goto (tgt := 99) hx hb dX1_firstThatCanNotGoOn_94 (by decide) ?_
      exact hend (g 1 0) H locs _ _ hf hP hS dX1_firstThatCanNotGoOn_99
    · replace hf := if_f c_2 hf
      refine lv_iload_n hx hb dX1_firstThatCanNotGoOn_82 rfl (lv_at hl 2 rfl) ?_
      refine lv_aload_n hx hb dX1_firstThatCanNotGoOn_83 rfl (lv_at hl 1 rfl) ?_
      obtain ⟨a_3, ha_3, hf⟩ := bd_e hf
      have hi_q7_1 : q7.1 < 5 := (f_J0_length_8abf5_lt ha_3)
      refine Cw.callV (As := []) (rest := [.int q7.2.1]) (st1 := [.int a_3, .int q7.2.1]) (c_J0_length_8abf5 l D cI adK adV  q7.1 a_3 ha_3) hE hx hb hml hown hts (cwV 0 hts gX1_firstThatCanNotGoOn_J0_length_8abf5 rfl rfl rfl hd_J0_length_8abf5 ⟨Nat.le_of_ble_eq_true rfl, Nat.le_of_ble_eq_true rfl⟩) (vk_recv hE.1 hi_q7_1 hS) Ln.nil hA hK hP hD hS rfl hl.1 rfl rfl (Nat.le_of_ble_eq_true rfl) dX1_firstThatCanNotGoOn_84 (fun H locs hP hD hS => ?_)
      refine lv_icmp_ge (tgt := 97) hx hb dX1_firstThatCanNotGoOn_87 (by decide) (fun c_4 => ?_) (fun c_4 => ?_)
      · replace hf := if_t c_4 hf
        refine lv_bipush (v := -9) hx hb dX1_firstThatCanNotGoOn_97 (by decide +kernel) ?_
        exact hend (-9 : Int32) H locs _ _ hf hP hS dX1_firstThatCanNotGoOn_99
      · replace hf := if_f c_4 hf
        refine lv_aload_n hx hb dX1_firstThatCanNotGoOn_90 rfl (lv_at hl 0 rfl) ?_
        refine va_get (D := D) (ci := 1) (v := .int (g 1 0)) (C := RX1) (T := TX1) (N := 2) hx hb hts hw1 hown hK hP 0 cG_at0 rfl 1 (by decide) k15 (fun _ h9 => h9) rfl dX1_firstThatCanNotGoOn_91 ?_
        refine lv_goto (tgt := 99) hx hb dX1_firstThatCanNotGoOn_94 (by decide) ?_
        exact hend (g 1 0) H locs _ _ hf hP hS dX1_firstThatCanNotGoOn_99
  · replace hf := if_f c_1 hf
    refine lv_iload_n hx hb dX1_firstThatCanNotGoOn_15 rfl (lv_at hl 2 rfl) ?_
    refine lv_aload_n hx hb dX1_firstThatCanNotGoOn_16 rfl (lv_at hl 1 rfl) ?_
    obtain ⟨a_5, ha_5, hf⟩ := bd_e hf
    have hi_q7_1 : q7.1 < 5 := (f_J0_length_8abf5_lt ha_5)
    refine Cw.callV (As := []) (rest := [.int q7.2.1]) (st1 := [.int a_5, .int q7.2.1]) (c_J0_length_8abf5 l D cI adK adV  q7.1 a_5 ha_5) hE hx hb hml hown hts (cwV 0 hts gX1_firstThatCanNotGoOn_J0_length_8abf5 rfl rfl rfl hd_J0_length_8abf5 ⟨Nat.le_of_ble_eq_true rfl, Nat.le_of_ble_eq_true rfl⟩) (vk_recv hE.1 hi_q7_1 hS) Ln.nil hA hK hP hD hS rfl hl.1 rfl rfl (Nat.le_of_ble_eq_true rfl) dX1_firstThatCanNotGoOn_17 (fun H locs hP hD hS => ?_)
    refine lv_icmp_ge (tgt := 48) hx hb dX1_firstThatCanNotGoOn_20 (by decide) (fun c_6 => ?_) (fun c_6 => ?_)
    · replace hf := if_t c_6 hf
      refine lv_aload_n hx hb dX1_firstThatCanNotGoOn_48 rfl (lv_at hl 0 rfl) ?_
      refine va_get (D := D) (ci := 1) (v := .ref (A 1)) (C := RX1) (T := TX1) (N := 2) hx hb hts hw1 hown hK hP 0 cG_at0 rfl 0 (by decide) k11 (fun _ h9 => h9) rfl dX1_firstThatCanNotGoOn_49 ?_
      refine lv_iload_n hx hb dX1_firstThatCanNotGoOn_52 rfl (lv_at hl 3 rfl) ?_
      obtain ⟨c_7, hf⟩ := gi_e hf
      refine va_iald hx hb hK hP 1 0 cG_at1 rfl c_7 dX1_firstThatCanNotGoOn_53 ?_
      obtain ⟨a_8, ha_8, hf⟩ := bd_e hf
      refine Cw.callS (As := [.int (g 0 (q7.2.2).toNatClampNeg)]) (rest := []) (st1 := [.ref (adK a_8)]) (c_X1_partsBehind l D cI adK adV  (g 0 (q7.2.2).toNatClampNeg) a_8 ha_8) hE hx hb hml hown hts (va_cwS 1 hts gX1_firstThatCanNotGoOn_X1_partsBehind rfl rfl rfl hd_X1_partsBehind ⟨Nat.le_of_ble_eq_true rfl, Nat.le_of_ble_eq_true rfl⟩) Ln.nil hA hK hP hD hS rfl hl.1 rfl rfl (Nat.le_of_ble_eq_true rfl) dX1_firstThatCanNotGoOn_54 (fun H locs hP hD hS => ?_)
      refine lv_astore_n (lv' := [(1, .ref (adK a_8)), (0, .ref (A 0)), (2, .int q7.2.1), (3, .int q7.2.2)]) hx hb dX1_firstThatCanNotGoOn_57 rfl hl (by decide) rfl (fun ls hl => ?_)
      refine lv_iconst (v := 0) hx hb dX1_firstThatCanNotGoOn_58 (by decide) ?_
      refine lv_istore_n (lv' := [(2, .int (0 : Int32)), (1, .ref (adK a_8)), (0, .ref (A 0)), (3, .int q7.2.2)]) hx hb dX1_firstThatCanNotGoOn_59 rfl hl (by decide) rfl (fun ls hl => ?_)
      refine lv_aload_n hx hb dX1_firstThatCanNotGoOn_60 rfl (lv_at hl 1 rfl) ?_
      obtain ⟨a_9, ha_9, hf⟩ := bd_e hf
      have hi_a_8 : a_8 < 5 := (f_J0_isEmpty_aae02_lt ha_9)
      refine Cw.callV (As := []) (rest := []) (st1 := [.int a_9]) (c_J0_isEmpty_aae02 l D cI adK adV  a_8 a_9 ha_9) hE hx hb hml hown hts (cwV 0 hts gX1_firstThatCanNotGoOn_J0_isEmpty_aae02 rfl rfl rfl hd_J0_isEmpty_aae02 ⟨Nat.le_of_ble_eq_true rfl, Nat.le_of_ble_eq_true rfl⟩) (vk_recv hE.1 hi_a_8 hS) Ln.nil hA hK hP hD hS rfl hl.1 rfl rfl (Nat.le_of_ble_eq_true rfl) dX1_firstThatCanNotGoOn_61 (fun H locs hP hD hS => ?_)
      refine lv_if_eq (tgt := 69) hx hb dX1_firstThatCanNotGoOn_64 (by decide) (fun c_10 => ?_) (fun c_10 => ?_)
      · replace hf := if_t c_10 hf
        obtain ⟨v_11, ev_11, hf⟩ := nq_e hf
        refine lv_iinc (v := v_11) (lv' := [(3, .int v_11), (2, .int (0 : Int32)), (1, .ref (adK a_8)), (0, .ref (A 0))]) hx hb dX1_firstThatCanNotGoOn_69 hl (k := 3) rfl (by rw [ev_11]; rfl) (by decide) rfl (fun ls hl => ?_)
        refine lv_goto (tgt := 7) hx hb dX1_firstThatCanNotGoOn_72 (by decide) ?_
        exact ih7 (a_8, (0 : Int32), v_11) hf H locs ls hP hD hS (lv_sub hl [3, 2, 1, 0] rfl)
      · replace hf := if_f c_10 hf
        refine lv_iload_n hx hb dX1_firstThatCanNotGoOn_67 rfl (lv_at hl 3 rfl) ?_
        exact hend q7.2.2 H locs _ _ hf hP hS dX1_firstThatCanNotGoOn_68
    · replace hf := if_f c_6 hf
      refine lv_aload_n hx hb dX1_firstThatCanNotGoOn_23 rfl (lv_at hl 0 rfl) ?_
      refine va_get (D := D) (ci := 1) (v := .ref (A 1)) (C := RX1) (T := TX1) (N := 2) hx hb hts hw1 hown hK hP 0 cG_at0 rfl 0 (by decide) k11 (fun _ h9 => h9) rfl dX1_firstThatCanNotGoOn_24 ?_
      refine lv_iload_n hx hb dX1_firstThatCanNotGoOn_27 rfl (lv_at hl 3 rfl) ?_
      obtain ⟨c_12, hf⟩ := gi_e hf
      refine va_iald hx hb hK hP 1 0 cG_at1 rfl c_12 dX1_firstThatCanNotGoOn_28 ?_
      refine lv_aload_n hx hb dX1_firstThatCanNotGoOn_29 rfl (lv_at hl 1 rfl) ?_
      refine lv_iload_n hx hb dX1_firstThatCanNotGoOn_30 rfl (lv_at hl 2 rfl) ?_
      obtain ⟨a_13, ha_13, hf⟩ := bd_e hf
      have hi_q7_1 : q7.1 < 5 := (f_J0_charAt_5068e_lt ha_13)
      refine Cw.callV (As := [.int q7.2.1]) (rest := [.int (g 0 (q7.2.2).toNatClampNeg)]) (st1 := [.int a_13, .int (g 0 (q7.2.2).toNatClampNeg)]) (c_J0_charAt_5068e l D cI adK adV  q7.1 q7.2.1 a_13 ha_13) hE hx hb hml hown hts (cwV 1 hts gX1_firstThatCanNotGoOn_J0_charAt_5068e rfl rfl rfl hd_J0_charAt_5068e ⟨Nat.le_of_ble_eq_true rfl, Nat.le_of_ble_eq_true rfl⟩) (vk_recv hE.1 hi_q7_1 hS) Ln.nil hA hK hP hD hS rfl hl.1 rfl rfl (Nat.le_of_ble_eq_true rfl) dX1_firstThatCanNotGoOn_31 (fun H locs hP hD hS => ?_)
      obtain ⟨a_14, ha_14, hf⟩ := bd_e hf
      refine Cw.callS (As := [.int (g 0 (q7.2.2).toNatClampNeg), .int a_13]) (rest := []) (st1 := [.int a_14]) (c_X1_fits l D cI adK adV  (g 0 (q7.2.2).toNatClampNeg) a_13 a_14 ha_14) hE hx hb hml hown hts (va_cwS 2 hts gX1_firstThatCanNotGoOn_X1_fits rfl rfl rfl hd_X1_fits ⟨Nat.le_of_ble_eq_true rfl, Nat.le_of_ble_eq_true rfl⟩) Ln.nil hA hK hP hD hS rfl hl.1 rfl rfl (Nat.le_of_ble_eq_true rfl) dX1_firstThatCanNotGoOn_34 (fun H locs hP hD hS => ?_)
      refine lv_if_ne (tgt := 42) hx hb dX1_firstThatCanNotGoOn_37 (by decide) (fun c_15 => ?_) (fun c_15 => ?_)
      · replace hf := if_f c_15 hf
        obtain ⟨v_16, ev_16, hf⟩ := nq_e hf
        refine lv_iinc (v := v_16) (lv' := [(2, .int v_16), (0, .ref (A 0)), (1, .ref (adK q7.1)), (3, .int q7.2.2)]) hx hb dX1_firstThatCanNotGoOn_42 hl (k := 2) rfl (by rw [ev_16]; rfl) (by decide) rfl (fun ls hl => ?_)
        refine lv_goto (tgt := 69) hx hb dX1_firstThatCanNotGoOn_45 (by decide) ?_
        obtain ⟨v_17, ev_17, hf⟩ := nq_e hf
        refine lv_iinc (v := v_17) (lv' := [(3, .int v_17), (2, .int v_16), (0, .ref (A 0)), (1, .ref (adK q7.1))]) hx hb dX1_firstThatCanNotGoOn_69 hl (k := 3) rfl (by rw [ev_17]; rfl) (by decide) rfl (fun ls hl => ?_)
        refine lv_goto (tgt := 7) hx hb dX1_firstThatCanNotGoOn_72 (by decide) ?_
        exact ih7 (q7.1, v_16, v_17) hf H locs ls hP hD hS (lv_sub hl [2, 3, 1, 0] rfl)
      · replace hf := if_t c_15 hf
        refine lv_iload_n hx hb dX1_firstThatCanNotGoOn_40 rfl (lv_at hl 3 rfl) ?_
        exact hend q7.2.2 H locs _ _ hf hP hS dX1_firstThatCanNotGoOn_41

def rm_X1_happens : Room := { frames := 5, cells := 0, slots := 0, locals := 111 }
theorem hd_X1_happens : yX1_happens.cls = RX1 ∧ yX1_happens.cls ≠ "java/lang/invoke/MethodHandle" ∧ yX1_happens.cls ≠ "java/lang/invoke/VarHandle" ∧ (parseMethodDescriptor yX1_happens.desc).map (fun d => d.parameters.length) = some 2 := by decide +kernel
set_option maxRecDepth 100000 in
set_option maxHeartbeats 4000000 in
theorem c_X1_happens (l : Launch) (D : va_G) (cI : ClassId) (adK adV : Nat → Nat) (A B : Nat → Nat) (g : St) (h : St) (p1 : Int32) (r : Int32 × St) (hf : f_X1_happens g h p1 = some r) : Cw l yX1_happens wsX1_happens rm_X1_happens D cI adK adV (cGH cI A B g h) (cGH cI A B g r.2) [.ref (A 0), .int p1, .ref (B 0)] (some (.int r.1)) := by
  unfold f_X1_happens at hf
  obtain ⟨hz0, hf⟩ := fzp_e hf
  refine Cw.ofN (nar_b hz0) (cc := cX1_happens) (maxL := 5) (by decide +kernel) rfl (Nat.le_of_ble_eq_true rfl) ?_
  intro p e s m args below meth c AA Q H locs ls hx hb hml hown hts hA hK hE hP hD hS hl hend0
  have hend : ∀ (r1 : Int32 × St) (H : Heap) (locs : List Loc) (pc : Nat) (ls : Array Slot), some r1 = some r → va_P D vwCl (cGH cI A B g r1.2) H → va_S AA s.heap H locs → decode cX1_happens pc = .ok (.ireturn, 1) → W p l e rm_X1_happens s m args below meth c H locs 0 0 Q (F0 m pc ls [.int r1.1]) := by
    intro r1 H locs pc ls e1 hP hS hd; cases e1; exact hend0 H locs pc ls hP hS hd
  clear hend0
  replace hl : lv_has ls 5 [(0, .ref (A 0)), (1, .int p1), (2, .ref (B 0))] := hl
  refine lv_aload_n hx hb dX1_happens_0 rfl (lv_at hl 0 rfl) ?_
  refine lv_iload_n hx hb dX1_happens_1 rfl (lv_at hl 1 rfl) ?_
  refine lv_iconst (v := 1) hx hb dX1_happens_2 (by decide) ?_
  refine lv_iadd hx hb dX1_happens_3 ?_
  obtain ⟨a_1, ha_1, hf⟩ := bd_e hf
  refine Ct.callV (As := [.int (p1 + (1 : Int32))]) (rest := []) (st1 := [.int a_1]) (c_X1_digit l D cI A g (p1 + (1 : Int32)) a_1 ha_1) hx hb hml hown hts (cwV 1 hts gX1_happens_X1_digit rfl rfl rfl hd_X1_digit ⟨Nat.le_of_ble_eq_true rfl, Nat.le_of_ble_eq_true rfl⟩) (va_recv hK hP (ci := 1) (q0 := 0) rfl cGH_at0) ln_GH_G hA hK hP hD hS rfl hl.1 rfl rfl (Nat.le_of_ble_eq_true rfl) dX1_happens_4 (fun H locs hP hD hS => ?_)
  refine lv_istore_n (lv' := [(3, .int a_1), (0, .ref (A 0)), (1, .int p1), (2, .ref (B 0))]) hx hb dX1_happens_7 rfl hl (by decide) rfl (fun ls hl => ?_)
  refine lv_aload_n hx hb dX1_happens_8 rfl (lv_at hl 1 rfl) ?_
  refine lv_iload_n hx hb dX1_happens_9 rfl (lv_at hl 2 rfl) ?_
  refine lv_iconst (v := 2) hx hb dX1_happens_10 (by decide) ?_
  refine lv_iadd hx hb dX1_happens_11 ?_
  obtain ⟨a_2, ha_2, hf⟩ := bd_e hf
  refine Ct.callV (As := [.int (p1 + (2 : Int32))]) (rest := []) (st1 := [.int a_2]) (c_X1_digit l D cI A g (p1 + (2 : Int32)) a_2 ha_2) hx hb hml hown hts (cwV 1 hts gX1_happens_X1_digit rfl rfl rfl hd_X1_digit ⟨Nat.le_of_ble_eq_true rfl, Nat.le_of_ble_eq_true rfl⟩) (va_recv hK hP (ci := 1) (q0 := 0) rfl cGH_at0) ln_GH_G hA hK hP hD hS rfl hl.1 rfl rfl (Nat.le_of_ble_eq_true rfl) dX1_happens_12 (fun H locs hP hD hS => ?_)
  refine lv_istore (lv' := [(4, .int a_2), (3, .int a_1), (0, .ref (A 0)), (1, .int p1), (2, .ref (B 0))]) hx hb dX1_happens_15 hl (by decide) rfl (fun ls hl => ?_)
  refine lv_aload_n hx hb dX1_happens_17 rfl (lv_at hl 2 rfl) ?_
  refine lv_iload_n hx hb dX1_happens_18 rfl (lv_at hl 3 rfl) ?_
  obtain ⟨a_3, ha_3, hf⟩ := bd_e hf
  refine Ct.callV (As := [.int p1]) (rest := []) (st1 := [.int a_3]) (c_X1_signAt l D cI A g p1 a_3 ha_3) hx hb hml hown hts (cwV 1 hts gX1_happens_X1_signAt rfl rfl rfl hd_X1_signAt ⟨Nat.le_of_ble_eq_true rfl, Nat.le_of_ble_eq_true rfl⟩) (va_recv hK hP (ci := 1) (q0 := 0) rfl cGH_at0) ln_GH_G hA hK hP hD hS rfl hl.1 rfl rfl (Nat.le_of_ble_eq_true rfl) dX1_happens_19 (fun H locs hP hD hS => ?_)
  by_cases c_4 : a_3 = 98
  · replace hf := if_t c_4 hf
    refine lv_lookup (off := 117) (tgt := 139) hx hb dX1_happens_22 (by decide) (by rw [c_4]; decide +kernel) (by decide) ?_
    refine lv_iload_n hx hb dX1_happens_139 rfl (lv_at hl 1 rfl) ?_
    refine lv_iload hx hb dX1_happens_140 (lv_at hl 0 rfl) ?_
    refine lv_aload_n hx hb dX1_happens_142 rfl (lv_at hl 4 rfl) ?_
    obtain ⟨a_5, ha_5, hf⟩ := bd_e hf
    refine Ct.callS (As := [.int a_1, .int a_2, .ref (B 0)]) (rest := []) (st1 := [.int a_5.1]) (c_X1_boardingHappens l D cI B h a_1 a_2 a_5 ha_5) hx hb hml hown hts (va_cwS 3 hts gX1_happens_X1_boardingHappens rfl rfl rfl hd_X1_boardingHappens ⟨Nat.le_of_ble_eq_true rfl, Nat.le_of_ble_eq_true rfl⟩) ln_GH_H hA hK hP hD hS rfl hl.1 rfl rfl (Nat.le_of_ble_eq_true rfl) dX1_happens_143 (fun H locs hP hD hS => ?_)
    replace hP : va_P D vwCl (cGH cI A B g a_5.2) H := hP
    replace hD : va_D AA (cGH cI A B g a_5.2) := hD
    exact hend (a_5.1, a_5.2) H locs _ _ hf hP hS dX1_happens_146
  · replace hf := if_f c_4 hf
    by_cases c_6 : a_3 = 109
    · replace hf := if_t c_6 hf
      refine lv_lookup (off := 64) (tgt := 86) hx hb dX1_happens_22 (by decide) (by rw [c_6]; decide +kernel) (by decide) ?_
      refine lv_aload_n hx hb dX1_happens_86 rfl (lv_at hl 4 rfl) ?_
      refine lv_aload_n hx hb dX1_happens_87 rfl (lv_at hl 2 rfl) ?_
      refine lv_iload_n hx hb dX1_happens_88 rfl (lv_at hl 3 rfl) ?_
      refine lv_iconst (v := 1) hx hb dX1_happens_89 (by decide) ?_
      refine lv_iadd hx hb dX1_happens_90 ?_
      obtain ⟨a_7, ha_7, hf⟩ := bd_e hf
      refine Ct.callV (As := [.int (p1 + (1 : Int32))]) (rest := [.ref (B 0)]) (st1 := [.int a_7, .ref (B 0)]) (c_X1_signAt l D cI A g (p1 + (1 : Int32)) a_7 ha_7) hx hb hml hown hts (cwV 1 hts gX1_happens_X1_signAt rfl rfl rfl hd_X1_signAt ⟨Nat.le_of_ble_eq_true rfl, Nat.le_of_ble_eq_true rfl⟩) (va_recv hK hP (ci := 1) (q0 := 0) rfl cGH_at0) ln_GH_G hA hK hP hD hS rfl hl.1 rfl rfl (Nat.le_of_ble_eq_true rfl) dX1_happens_91 (fun H locs hP hD hS => ?_)
      obtain ⟨a_8, ha_8, hf⟩ := bd_e hf
      refine Cw.callS (As := [.int a_7]) (rest := [.ref (B 0)]) (st1 := [.int a_8, .ref (B 0)]) (c_X1_kindOf l D cI adK adV  a_7 a_8 ha_8) hE hx hb hml hown hts (va_cwS 1 hts gX1_happens_X1_kindOf rfl rfl rfl hd_X1_kindOf ⟨Nat.le_of_ble_eq_true rfl, Nat.le_of_ble_eq_true rfl⟩) Ln.nil hA hK hP hD hS rfl hl.1 rfl rfl (Nat.le_of_ble_eq_true rfl) dX1_happens_94 (fun H locs hP hD hS => ?_)
      refine lv_iload hx hb dX1_happens_97 (lv_at hl 0 rfl) ?_
      refine lv_aload_n hx hb dX1_happens_99 rfl (lv_at hl 2 rfl) ?_
      refine lv_iload_n hx hb dX1_happens_100 rfl (lv_at hl 3 rfl) ?_
      refine lv_iconst (v := 3) hx hb dX1_happens_101 (by decide) ?_
      refine lv_iadd hx hb dX1_happens_102 ?_
      obtain ⟨a_9, ha_9, hf⟩ := bd_e hf
      refine Ct.callV (As := [.int (p1 + (3 : Int32))]) (rest := [.int a_2, .int a_8, .ref (B 0)]) (st1 := [.int a_9, .int a_2, .int a_8, .ref (B 0)]) (c_X1_digit l D cI A g (p1 + (3 : Int32)) a_9 ha_9) hx hb hml hown hts (cwV 1 hts gX1_happens_X1_digit rfl rfl rfl hd_X1_digit ⟨Nat.le_of_ble_eq_true rfl, Nat.le_of_ble_eq_true rfl⟩) (va_recv hK hP (ci := 1) (q0 := 0) rfl cGH_at0) ln_GH_G hA hK hP hD hS rfl hl.1 rfl rfl (Nat.le_of_ble_eq_true rfl) dX1_happens_103 (fun H locs hP hD hS => ?_)
      refine lv_aload_n hx hb dX1_happens_106 rfl (lv_at hl 2 rfl) ?_
      refine lv_iload_n hx hb dX1_happens_107 rfl (lv_at hl 3 rfl) ?_
      refine lv_iconst (v := 4) hx hb dX1_happens_108 (by decide) ?_
      refine lv_iadd hx hb dX1_happens_109 ?_
      obtain ⟨a_10, ha_10, hf⟩ := bd_e hf
      refine Ct.callV (As := [.int (p1 + (4 : Int32))]) (rest := [.int a_9, .int a_2, .int a_8, .ref (B 0)]) (st1 := [.int a_10, .int a_9, .int a_2, .int a_8, .ref (B 0)]) (c_X1_digit l D cI A g (p1 + (4 : Int32)) a_10 ha_10) hx hb hml hown hts (cwV 1 hts gX1_happens_X1_digit rfl rfl rfl hd_X1_digit ⟨Nat.le_of_ble_eq_true rfl, Nat.le_of_ble_eq_true rfl⟩) (va_recv hK hP (ci := 1) (q0 := 0) rfl cGH_at0) ln_GH_G hA hK hP hD hS rfl hl.1 rfl rfl (Nat.le_of_ble_eq_true rfl) dX1_happens_110 (fun H locs hP hD hS => ?_)
      obtain ⟨a_11, ha_11, hf⟩ := bd_e hf
      refine Ct.callV (As := [.int a_8, .int a_2, .int a_9, .int a_10]) (rest := []) (st1 := [.int a_11.1]) (c_X0_addMan l D cI B h a_8 a_2 a_9 a_10 a_11 ha_11) hx hb hml hown hts (cwV 4 hts gX1_happens_X0_addMan rfl rfl rfl hd_X0_addMan ⟨Nat.le_of_ble_eq_true rfl, Nat.le_of_ble_eq_true rfl⟩) (va_recv hK hP (ci := 0) (q0 := 2) rfl cGH_at2) ln_GH_H hA hK hP hD hS rfl hl.1 rfl rfl (Nat.le_of_ble_eq_true rfl) dX1_happens_113 (fun H locs hP hD hS => ?_)
      replace hP : va_P D vwCl (cGH cI A B g a_11.2) H := hP
      replace hD : va_D AA (cGH cI A B g a_11.2) := hD
      exact hend (a_11.1, a_11.2) H locs _ _ hf hP hS dX1_happens_116
    · replace hf := if_f c_6 hf
      by_cases c_12 : a_3 = 115
      · replace hf := if_t c_12 hf
        refine lv_lookup (off := 58) (tgt := 80) hx hb dX1_happens_22 (by decide) (by rw [c_12]; decide +kernel) (by decide) ?_
        refine lv_aload_n hx hb dX1_happens_80 rfl (lv_at hl 4 rfl) ?_
        refine lv_iload_n hx hb dX1_happens_81 rfl (lv_at hl 1 rfl) ?_
        obtain ⟨a_13, ha_13, hf⟩ := bd_e hf
        refine Ct.callV (As := [.int a_1]) (rest := []) (st1 := [.int a_13.1]) (c_X0_addShip l D cI B h a_1 a_13 ha_13) hx hb hml hown hts (cwV 1 hts gX1_happens_X0_addShip rfl rfl rfl hd_X0_addShip ⟨Nat.le_of_ble_eq_true rfl, Nat.le_of_ble_eq_true rfl⟩) (va_recv hK hP (ci := 0) (q0 := 2) rfl cGH_at2) ln_GH_H hA hK hP hD hS rfl hl.1 rfl rfl (Nat.le_of_ble_eq_true rfl) dX1_happens_82 (fun H locs hP hD hS => ?_)
        replace hP : va_P D vwCl (cGH cI A B g a_13.2) H := hP
        replace hD : va_D AA (cGH cI A B g a_13.2) := hD
        exact hend (a_13.1, a_13.2) H locs _ _ hf hP hS dX1_happens_85
      · replace hf := if_f c_12 hf
        by_cases c_14 : a_3 = 116
        · replace hf := if_t c_14 hf
          refine lv_lookup (off := 95) (tgt := 117) hx hb dX1_happens_22 (by decide) (by rw [c_14]; decide +kernel) (by decide) ?_
          refine lv_aload_n hx hb dX1_happens_117 rfl (lv_at hl 4 rfl) ?_
          refine lv_iload_n hx hb dX1_happens_118 rfl (lv_at hl 1 rfl) ?_
          obtain ⟨a_15, ha_15, hf⟩ := bd_e hf
          refine Ct.callV (As := [.int a_1]) (rest := []) (st1 := [.int a_15]) (c_X0_canTell l D cI B h a_1 a_15 ha_15) hx hb hml hown hts (cwV 1 hts gX1_happens_X0_canTell rfl rfl rfl hd_X0_canTell ⟨Nat.le_of_ble_eq_true rfl, Nat.le_of_ble_eq_true rfl⟩) (va_recv hK hP (ci := 0) (q0 := 2) rfl cGH_at2) ln_GH_H hA hK hP hD hS rfl hl.1 rfl rfl (Nat.le_of_ble_eq_true rfl) dX1_happens_119 (fun H locs hP hD hS => ?_)
          refine lv_if_eq (tgt := 137) hx hb dX1_happens_122 (by decide) (fun c_16 => ?_) (fun c_16 => ?_)
          · replace hf := if_t c_16 hf
            refine lv_iconst (v := 0) hx hb dX1_happens_137 (by decide) ?_
            exact hend ((0 : Int32), h) H locs _ _ hf hP hS dX1_happens_138
          · replace hf := if_f c_16 hf
            refine lv_aload_n hx hb dX1_happens_125 rfl (lv_at hl 4 rfl) ?_
            refine lv_iload_n hx hb dX1_happens_126 rfl (lv_at hl 1 rfl) ?_
            obtain ⟨a_17, ha_17, hf⟩ := bd_e hf
            refine Ct.callV (As := [.int a_1]) (rest := []) (st1 := [.int a_17.1]) (c_X0_word l D cI B h a_1 a_17 ha_17) hx hb hml hown hts (cwV 1 hts gX1_happens_X0_word rfl rfl rfl hd_X0_word ⟨Nat.le_of_ble_eq_true rfl, Nat.le_of_ble_eq_true rfl⟩) (va_recv hK hP (ci := 0) (q0 := 2) rfl cGH_at2) ln_GH_H hA hK hP hD hS rfl hl.1 rfl rfl (Nat.le_of_ble_eq_true rfl) dX1_happens_127 (fun H locs hP hD hS => ?_)
            replace hP : va_P D vwCl (cGH cI A B g a_17.2) H := hP
            replace hD : va_D AA (cGH cI A B g a_17.2) := hD
            refine lv_if_lt (tgt := 137) hx hb dX1_happens_130 (by decide) (fun c_18 => ?_) (fun c_18 => ?_)
            · replace hf := if_t c_18 hf
              refine lv_iconst (v := 0) hx hb dX1_happens_137 (by decide) ?_
              exact hend ((0 : Int32), a_17.2) H locs _ _ hf hP hS dX1_happens_138
            · replace hf := if_f c_18 hf
              refine lv_iconst (v := 1) hx hb dX1_happens_133 (by decide) ?_
              refine lv_goto (tgt := 138) hx hb dX1_happens_134 (by decide) ?_
              exact hend ((1 : Int32), a_17.2) H locs _ _ hf hP hS dX1_happens_138
        · replace hf := if_f c_14 hf
          by_cases c_19 : a_3 = 118
          · replace hf := if_t c_19 hf
            refine lv_lookup (off := 125) (tgt := 147) hx hb dX1_happens_22 (by decide) (by rw [c_19]; decide +kernel) (by decide) ?_
            refine lv_iload_n hx hb dX1_happens_147 rfl (lv_at hl 1 rfl) ?_
            refine lv_iload hx hb dX1_happens_148 (lv_at hl 0 rfl) ?_
            refine lv_aload_n hx hb dX1_happens_150 rfl (lv_at hl 4 rfl) ?_
            obtain ⟨a_20, ha_20, hf⟩ := bd_e hf
            refine Ct.callS (As := [.int a_1, .int a_2, .ref (B 0)]) (rest := []) (st1 := [.int a_20.1]) (c_X1_sinsHappen l D cI B h a_1 a_2 a_20 ha_20) hx hb hml hown hts (va_cwS 3 hts gX1_happens_X1_sinsHappen rfl rfl rfl hd_X1_sinsHappen ⟨Nat.le_of_ble_eq_true rfl, Nat.le_of_ble_eq_true rfl⟩) ln_GH_H hA hK hP hD hS rfl hl.1 rfl rfl (Nat.le_of_ble_eq_true rfl) dX1_happens_151 (fun H locs hP hD hS => ?_)
            replace hP : va_P D vwCl (cGH cI A B g a_20.2) H := hP
            replace hD : va_D AA (cGH cI A B g a_20.2) := hD
            exact hend (a_20.1, a_20.2) H locs _ _ hf hP hS dX1_happens_154
          · replace hf := if_f c_19 hf
            by_cases c_21 : a_3 = 119
            · replace hf := if_t c_21 hf
              refine lv_lookup (off := 133) (tgt := 155) hx hb dX1_happens_22 (by decide) (by rw [c_21]; decide +kernel) (by decide) ?_
              refine lv_bipush (v := 10) hx hb dX1_happens_155 (by decide +kernel) ?_
              refine lv_iload_n hx hb dX1_happens_157 rfl (lv_at hl 1 rfl) ?_
              refine lv_imul hx hb dX1_happens_158 ?_
              refine lv_iload hx hb dX1_happens_159 (lv_at hl 0 rfl) ?_
              refine lv_iadd hx hb dX1_happens_161 ?_
              refine lv_aload_n hx hb dX1_happens_162 rfl (lv_at hl 4 rfl) ?_
              obtain ⟨a_22, ha_22, hf⟩ := bd_e hf
              refine Ct.callS (As := [.int (((10 : Int32) * a_1) + a_2), .ref (B 0)]) (rest := []) (st1 := [.int a_22.1]) (c_X1_tidesHappen l D cI B h (((10 : Int32) * a_1) + a_2) a_22 ha_22) hx hb hml hown hts (va_cwS 2 hts gX1_happens_X1_tidesHappen rfl rfl rfl hd_X1_tidesHappen ⟨Nat.le_of_ble_eq_true rfl, Nat.le_of_ble_eq_true rfl⟩) ln_GH_H hA hK hP hD hS rfl hl.1 rfl rfl (Nat.le_of_ble_eq_true rfl) dX1_happens_163 (fun H locs hP hD hS => ?_)
              replace hP : va_P D vwCl (cGH cI A B g a_22.2) H := hP
              replace hD : va_D AA (cGH cI A B g a_22.2) := hD
              exact hend (a_22.1, a_22.2) H locs _ _ hf hP hS dX1_happens_166
            · replace hf := if_f c_21 hf
              refine lv_lookup (off := 145) (tgt := 167) hx hb dX1_happens_22 (by decide) (by show Op.lookupswitch.offset [(98, 117), (109, 64), (115, 58), (116, 95), (118, 125), (119, 133)] 145 _ = _; rw [lv_osw c_4 (by decide +kernel), lv_osw c_6 (by decide +kernel), lv_osw c_12 (by decide +kernel), lv_osw c_14 (by decide +kernel), lv_osw c_19 (by decide +kernel), lv_osw c_21 (by decide +kernel)]; rfl) (by decide) ?_
              refine lv_iconst (v := 0) hx hb dX1_happens_167 (by decide) ?_
              exact hend ((0 : Int32), h) H locs _ _ hf hP hS dX1_happens_168

def rm_X1_play : Room := { frames := 7, cells := 0, slots := 0, locals := 155 }
theorem hd_X1_play : yX1_play.cls = RX1 ∧ yX1_play.cls ≠ "java/lang/invoke/MethodHandle" ∧ yX1_play.cls ≠ "java/lang/invoke/VarHandle" ∧ (parseMethodDescriptor yX1_play.desc).map (fun d => d.parameters.length) = some 1 := by decide +kernel
set_option maxRecDepth 100000 in
set_option maxHeartbeats 4000000 in
theorem c_X1_play (l : Launch) (D : va_G) (cI : ClassId) (adK adV : Nat → Nat) (A B : Nat → Nat) (g : St) (h : St) (r : Int32 × St) (hf : f_X1_play g h = some r) : Cw l yX1_play wsX1_play rm_X1_play D cI adK adV (cGH cI A B g h) (cGH cI A B g r.2) [.ref (A 0), .ref (B 0)] (some (.int r.1)) := by
  unfold f_X1_play at hf
  refine Cw.ofI (cc := cX1_play) (maxL := 6) (by decide +kernel) rfl (Nat.le_of_ble_eq_true rfl) ?_
  intro p e s m args below meth c AA Q H locs ls hx hb hml hown hts hA hK hE hP hD hS hl hend0
  have hend : ∀ (r1 : Int32 × St) (H : Heap) (locs : List Loc) (pc : Nat) (ls : Array Slot), some r1 = some r → va_P D vwCl (cGH cI A B g r1.2) H → va_S AA s.heap H locs → decode cX1_play pc = .ok (.ireturn, 1) → W p l e rm_X1_play s m args below meth c H locs 0 0 Q (F0 m pc ls [.int r1.1]) := by
    intro r1 H locs pc ls e1 hP hS hd; cases e1; exact hend0 H locs pc ls hP hS hd
  clear hend0
  have hw1 : ∀ w ∈ wsX10, w ∈ wsX1_play := by decide +kernel
  have k11 := hts (.fieldLink RX1 11 "AnchorsForConfession$Letters" "signs" "[I") (by decide +kernel)
  have k15 := hts (.fieldLink RX1 15 "AnchorsForConfession$Letters" "size" "I") (by decide +kernel)
  replace hl : lv_has ls 6 [(0, .ref (A 0)), (1, .ref (B 0))] := hl
  refine lv_aload_n hx hb dX1_play_0 rfl (lv_at hl 0 rfl) ?_
  obtain ⟨a_1, ha_1, hf⟩ := bd_e hf
  refine Cw.callV (As := []) (rest := []) (st1 := [.int a_1]) (c_X1_firstThatCanNotGoOn l D cI adK adV A g a_1 ha_1) hE hx hb hml hown hts (cwV 0 hts gX1_play_X1_firstThatCanNotGoOn rfl rfl rfl hd_X1_firstThatCanNotGoOn ⟨Nat.le_of_ble_eq_true rfl, Nat.le_of_ble_eq_true rfl⟩) (va_recv hK hP (ci := 1) (q0 := 0) rfl cGH_at0) ln_GH_G hA hK hP hD hS rfl hl.1 rfl rfl (Nat.le_of_ble_eq_true rfl) dX1_play_1 (fun H locs hP hD hS => ?_)
  refine lv_istore_n (lv' := [(2, .int a_1), (0, .ref (A 0)), (1, .ref (B 0))]) hx hb dX1_play_4 rfl hl (by decide) rfl (fun ls hl => ?_)
  refine lv_iload_n hx hb dX1_play_5 rfl (lv_at hl 0 rfl) ?_
  refine lv_bipush (v := -9) hx hb dX1_play_6 (by decide +kernel) ?_
  refine lv_icmp_eq (tgt := 17) hx hb dX1_play_8 (by decide) (fun c_2 => ?_) (fun c_2 => ?_)
  · replace hf := if_t c_2 hf
    refine lv_iconst (v := 0) hx hb dX1_play_17 (by decide) ?_
    refine lv_istore_n (lv' := [(3, .int (0 : Int32)), (2, .int a_1), (0, .ref (A 0)), (1, .ref (B 0))]) hx hb dX1_play_18 rfl hl (by decide) rfl (fun ls hl => ?_)
    refine lv_iconst (v := 0) hx hb dX1_play_19 (by decide) ?_
    refine lv_istore (lv' := [(4, .int (0 : Int32)), (3, .int (0 : Int32)), (2, .int a_1), (0, .ref (A 0)), (1, .ref (B 0))]) hx hb dX1_play_20 hl (by decide) rfl (fun ls hl => ?_)
    refine lv_iconst (v := 0) hx hb dX1_play_22 (by decide) ?_
    refine lv_istore (lv' := [(5, .int (0 : Int32)), (4, .int (0 : Int32)), (3, .int (0 : Int32)), (2, .int a_1), (0, .ref (A 0)), (1, .ref (B 0))]) hx hb dX1_play_23 hl (by decide) rfl (fun ls hl => ?_)
    refine lp_ind (P := fun (q25 : Int32 × Int32 × Int32 × St) => ∀ (H : Heap) (locs : List Loc) (ls : Array Slot), va_P D vwCl (cGH cI A B g q25.2.2.2) H → va_D AA (cGH cI A B g q25.2.2.2) → va_S AA s.heap H locs → lv_has ls 6 [(0, .ref (A 0)), (1, .ref (B 0)), (3, .int q25.1), (4, .int q25.2.1), (5, .int q25.2.2.1)] → W p l e rm_X1_play s m args below meth c H locs 0 0 Q (F0 m 25 ls [])) hf ?_ H locs ls hP hD hS (lv_sub hl [4, 5, 2, 1, 0] rfl)
    clear hf hP hD hS hl
    intro nx25 ih25 q25 hf H locs ls hP hD hS hl
    refine lv_iload hx hb dX1_play_25 (lv_at hl 4 rfl) ?_
    refine lv_bipush (v := 96) hx hb dX1_play_27 (by decide +kernel) ?_
    refine lv_icmp_ge (tgt := 87) hx hb dX1_play_29 (by decide) (fun c_3 => ?_) (fun c_3 => ?_)
    · replace hf := if_t c_3 hf
      refine lv_iload_n hx hb dX1_play_87 rfl (lv_at hl 2 rfl) ?_
      exact hend (q25.1, q25.2.2.2) H locs _ _ hf hP hS dX1_play_88
    · replace hf := if_f c_3 hf
      refine lv_iload hx hb dX1_play_32 (lv_at hl 3 rfl) ?_
      refine lv_aload_n hx hb dX1_play_34 rfl (lv_at hl 0 rfl) ?_
      refine va_get (D := D) (ci := 1) (v := .int (g 1 0)) (C := RX1) (T := TX1) (N := 2) hx hb hts hw1 hown hK hP 0 cGH_at0 rfl 1 (by decide) k15 (fun _ h9 => h9) rfl dX1_play_35 ?_
      refine lv_icmp_ge (tgt := 87) hx hb dX1_play_38 (by decide) (fun c_4 => ?_) (fun c_4 => ?_)
      · replace hf := if_t c_4 hf
        refine lv_iload_n hx hb dX1_play_87 rfl (lv_at hl 2 rfl) ?_
        exact hend (q25.1, q25.2.2.2) H locs _ _ hf hP hS dX1_play_88
      · replace hf := if_f c_4 hf
        refine lv_aload_n hx hb dX1_play_41 rfl (lv_at hl 0 rfl) ?_
        refine lv_iload hx hb dX1_play_42 (lv_at hl 3 rfl) ?_
        refine lv_aload_n hx hb dX1_play_44 rfl (lv_at hl 1 rfl) ?_
        obtain ⟨a_5, ha_5, hf⟩ := bd_e hf
        refine Cw.callV (As := [.int q25.2.1, .ref (B 0)]) (rest := []) (st1 := [.int a_5.1]) (c_X1_happens l D cI adK adV A B g q25.2.2.2 q25.2.1 a_5 ha_5) hE hx hb hml hown hts (cwV 2 hts gX1_play_X1_happens rfl rfl rfl hd_X1_happens ⟨Nat.le_of_ble_eq_true rfl, Nat.le_of_ble_eq_true rfl⟩) (va_recv hK hP (ci := 1) (q0 := 0) rfl cGH_at0) (Ln.id rfl) hA hK hP hD hS rfl hl.1 rfl rfl (Nat.le_of_ble_eq_true rfl) dX1_play_45 (fun H locs hP hD hS => ?_)
        replace hP : va_P D vwCl (cGH cI A B g a_5.2) H := hP
        replace hD : va_D AA (cGH cI A B g a_5.2) := hD
        refine lv_if_ne (tgt := 58) hx hb dX1_play_48 (by decide) (fun c_6 => ?_) (fun c_6 => ?_)
        · replace hf := if_f c_6 hf
          refine lv_iload hx hb dX1_play_58 (lv_at hl 3 rfl) ?_
          refine lv_iconst (v := 1) hx hb dX1_play_60 (by decide) ?_
          refine lv_aload_n hx hb dX1_play_61 rfl (lv_at hl 0 rfl) ?_
          refine va_get (D := D) (ci := 1) (v := .ref (A 1)) (C := RX1) (T := TX1) (N := 2) hx hb hts hw1 hown hK hP 0 cGH_at0 rfl 0 (by decide) k11 (fun _ h9 => h9) rfl dX1_play_62 ?_
          refine lv_iload hx hb dX1_play_65 (lv_at hl 3 rfl) ?_
          obtain ⟨c_7, hf⟩ := gi_e hf
          refine va_iald hx hb hK hP 1 0 cGH_at1 rfl c_7 dX1_play_67 ?_
          obtain ⟨a_8, ha_8, hf⟩ := bd_e hf
          refine Cw.callS (As := [.int (g 0 (q25.2.1).toNatClampNeg)]) (rest := [.int (1 : Int32), .int q25.2.1]) (st1 := [.ref (adK a_8), .int (1 : Int32), .int q25.2.1]) (c_X1_partsBehind l D cI adK adV  (g 0 (q25.2.1).toNatClampNeg) a_8 ha_8) hE hx hb hml hown hts (va_cwS 1 hts gX1_play_X1_partsBehind rfl rfl rfl hd_X1_partsBehind ⟨Nat.le_of_ble_eq_true rfl, Nat.le_of_ble_eq_true rfl⟩) Ln.nil hA hK hP hD hS rfl hl.1 rfl rfl (Nat.le_of_ble_eq_true rfl) dX1_play_68 (fun H locs hP hD hS => ?_)
          obtain ⟨a_9, ha_9, hf⟩ := bd_e hf
          have hi_a_8 : a_8 < 5 := (f_J0_length_8abf5_lt ha_9)
          refine Cw.callV (As := []) (rest := [.int (1 : Int32), .int q25.2.1]) (st1 := [.int a_9, .int (1 : Int32), .int q25.2.1]) (c_J0_length_8abf5 l D cI adK adV  a_8 a_9 ha_9) hE hx hb hml hown hts (cwV 0 hts gX1_play_J0_length_8abf5 rfl rfl rfl hd_J0_length_8abf5 ⟨Nat.le_of_ble_eq_true rfl, Nat.le_of_ble_eq_true rfl⟩) (vk_recv hE.1 hi_a_8 hS) Ln.nil hA hK hP hD hS rfl hl.1 rfl rfl (Nat.le_of_ble_eq_true rfl) dX1_play_71 (fun H locs hP hD hS => ?_)
          refine lv_iadd hx hb dX1_play_74 ?_
          refine lv_iadd hx hb dX1_play_75 ?_
          refine lv_topi (fun v_10 ev_10 => ?_)
          replace hf := nm_at ev_10 hf
          refine lv_istore (lv' := [(4, .int v_10), (0, .ref (A 0)), (1, .ref (B 0)), (3, .int q25.1), (5, .int q25.2.2.1)]) hx hb dX1_play_76 hl (by decide) rfl (fun ls hl => ?_)
          obtain ⟨v_11, ev_11, hf⟩ := nq_e hf
          refine lv_iinc (v := v_11) (lv' := [(3, .int v_11), (4, .int v_10), (0, .ref (A 0)), (1, .ref (B 0)), (5, .int q25.2.2.1)]) hx hb dX1_play_78 hl (k := 3) rfl (by rw [ev_11]; rfl) (by decide) rfl (fun ls hl => ?_)
          obtain ⟨v_12, ev_12, hf⟩ := nq_e hf
          refine lv_iinc (v := v_12) (lv' := [(5, .int v_12), (3, .int v_11), (4, .int v_10), (0, .ref (A 0)), (1, .ref (B 0))]) hx hb dX1_play_81 hl (k := 4) rfl (by rw [ev_12]; rfl) (by decide) rfl (fun ls hl => ?_)
          refine lv_goto (tgt := 25) hx hb dX1_play_84 (by decide) ?_
          exact ih25 (v_11, v_10, v_12, a_5.2) hf H locs ls hP hD hS (lv_sub hl [3, 4, 1, 2, 0] rfl)
        · replace hf := if_t c_6 hf
          refine lv_sipush (v := -2000) hx hb dX1_play_51 (by decide +kernel) ?_
          refine lv_iload hx hb dX1_play_54 (lv_at hl 3 rfl) ?_
          refine lv_isub hx hb dX1_play_56 ?_
          exact hend (((-2000 : Int32) - q25.2.1), a_5.2) H locs _ _ hf hP hS dX1_play_57
  · replace hf := if_f c_2 hf
    refine lv_sipush (v := -1000) hx hb dX1_play_11 (by decide +kernel) ?_
    refine lv_iload_n hx hb dX1_play_14 rfl (lv_at hl 0 rfl) ?_
    refine lv_isub hx hb dX1_play_15 ?_
    exact hend (((-1000 : Int32) - a_1), h) H locs _ _ hf hP hS dX1_play_16

def rm_X4_harbour : Room := { frames := 8, cells := 0, slots := 0, locals := 180 }
theorem hd_X4_harbour : yX4_harbour.cls = RX4 ∧ yX4_harbour.cls ≠ "java/lang/invoke/MethodHandle" ∧ yX4_harbour.cls ≠ "java/lang/invoke/VarHandle" ∧ (parseMethodDescriptor yX4_harbour.desc).map (fun d => d.parameters.length) = some 0 := by decide +kernel
set_option maxRecDepth 100000 in
set_option maxHeartbeats 4000000 in
theorem c_X4_harbour (l : Launch) (D : va_G) (cI : ClassId) (adK adV : Nat → Nat) (A : Nat → Nat) (n : St) (t : St) (k : St) (g : St) (w : St) (z : St) (q : St) (r : Int32 × St × St × St) (hf : f_X4_harbour n t k g w z q = some r) : Cw l yX4_harbour wsX4_harbour rm_X4_harbour D cI adK adV (cX cI A n t k g w z q) (cX cI A r.2.1 r.2.2.1 k r.2.2.2 w z q) [.ref (A 0)] (some (.int r.1)) := by
  unfold f_X4_harbour at hf
  refine Cw.ofI (cc := cX4_harbour) (maxL := 2) (by decide +kernel) rfl (Nat.le_of_ble_eq_true rfl) ?_
  intro p e s m args below meth c AA Q H locs ls hx hb hml hown hts hA hK hE hP hD hS hl hend0
  have hend : ∀ (r1 : Int32 × St × St × St) (H : Heap) (locs : List Loc) (pc : Nat) (ls : Array Slot), some r1 = some r → va_P D vwCl (cX cI A r1.2.1 r1.2.2.1 k r1.2.2.2 w z q) H → va_S AA s.heap H locs → decode cX4_harbour pc = .ok (.ireturn, 1) → W p l e rm_X4_harbour s m args below meth c H locs 0 0 Q (F0 m pc ls [.int r1.1]) := by
    intro r1 H locs pc ls e1 hP hS hd; cases e1; exact hend0 H locs pc ls hP hS hd
  clear hend0
  have hw4 : ∀ w ∈ wsX40, w ∈ wsX4_harbour := by decide +kernel
  have k10 := hts (.fieldLink RX4 10 "AnchorsForConfession" "now" "LAnchorsForConfession$Harbour;") (by decide +kernel)
  have k16 := hts (.fieldLink RX4 16 "AnchorsForConfession" "thought" "LAnchorsForConfession$Harbour;") (by decide +kernel)
  have k25 := hts (.fieldLink RX4 25 "AnchorsForConfession" "letters" "LAnchorsForConfession$Letters;") (by decide +kernel)
  replace hl : lv_has ls 2 [(0, .ref (A 0))] := hl
  refine lv_aload_n hx hb dX4_harbour_0 rfl (lv_at hl 0 rfl) ?_
  refine va_get (D := D) (ci := 4) (v := .ref (A 10)) (C := RX4) (T := TX4) (N := 8) hx hb hts hw4 hown hK hP 0 cX_at0 rfl 1 (by decide) k16 (fun _ h9 => h9) rfl dX4_harbour_1 ?_
  refine lv_aload_n hx hb dX4_harbour_4 rfl (lv_at hl 0 rfl) ?_
  refine va_get (D := D) (ci := 4) (v := .ref (A 1)) (C := RX4) (T := TX4) (N := 8) hx hb hts hw4 hown hK hP 0 cX_at0 rfl 0 (by decide) k10 (fun _ h9 => h9) rfl dX4_harbour_5 ?_
  obtain ⟨a_1, ha_1, hf⟩ := bd_e hf
  refine Ct.callV (As := [.ref (A 1)]) (rest := []) (st1 := []) (c_X0_copyFrom l D cI (fun j => A (10 + j)) (fun j => A (1 + j)) t n a_1 ha_1) hx hb hml hown hts (cwV 1 hts gX4_harbour_X0_copyFrom rfl rfl rfl hd_X0_copyFrom ⟨Nat.le_of_ble_eq_true rfl, Nat.le_of_ble_eq_true rfl⟩) (va_recv hK hP (ci := 0) (q0 := 10) rfl cX_at10) ln_X_HH_tn hA hK hP hD hS rfl hl.1 rfl rfl (Nat.le_of_ble_eq_true rfl) dX4_harbour_8 (fun H locs hP hD hS => ?_)
  replace hP : va_P D vwCl (cX cI A n a_1 k g w z q) H := hP
  replace hD : va_D AA (cX cI A n a_1 k g w z q) := hD
  refine lv_aload_n hx hb dX4_harbour_11 rfl (lv_at hl 0 rfl) ?_
  refine va_get (D := D) (ci := 4) (v := .ref (A 28)) (C := RX4) (T := TX4) (N := 8) hx hb hts hw4 hown hK hP 0 cX_at0 rfl 3 (by decide) k25 (fun _ h9 => h9) rfl dX4_harbour_12 ?_
  refine lv_aload_n hx hb dX4_harbour_15 rfl (lv_at hl 0 rfl) ?_
  refine va_get (D := D) (ci := 4) (v := .ref (A 10)) (C := RX4) (T := TX4) (N := 8) hx hb hts hw4 hown hK hP 0 cX_at0 rfl 1 (by decide) k16 (fun _ h9 => h9) rfl dX4_harbour_16 ?_
  obtain ⟨a_2, ha_2, hf⟩ := bd_e hf
  refine Cw.callV (As := [.ref (A 10)]) (rest := []) (st1 := [.int a_2.1]) (c_X1_play l D cI adK adV (fun j => A (28 + j)) (fun j => A (10 + j)) g a_1 a_2 ha_2) hE hx hb hml hown hts (cwV 1 hts gX4_harbour_X1_play rfl rfl rfl hd_X1_play ⟨Nat.le_of_ble_eq_true rfl, Nat.le_of_ble_eq_true rfl⟩) (va_recv hK hP (ci := 1) (q0 := 28) rfl cX_at28) ln_X_GH_t hA hK hP hD hS rfl hl.1 rfl rfl (Nat.le_of_ble_eq_true rfl) dX4_harbour_19 (fun H locs hP hD hS => ?_)
  replace hP : va_P D vwCl (cX cI A n a_2.2 k g w z q) H := hP
  replace hD : va_D AA (cX cI A n a_2.2 k g w z q) := hD
  refine lv_istore_n (lv' := [(1, .int a_2.1), (0, .ref (A 0))]) hx hb dX4_harbour_22 rfl hl (by decide) rfl (fun ls hl => ?_)
  refine lv_aload_n hx hb dX4_harbour_23 rfl (lv_at hl 1 rfl) ?_
  refine va_get (D := D) (ci := 4) (v := .ref (A 28)) (C := RX4) (T := TX4) (N := 8) hx hb hts hw4 hown hK hP 0 cX_at0 rfl 3 (by decide) k25 (fun _ h9 => h9) rfl dX4_harbour_24 ?_
  obtain ⟨a_3, ha_3, hf⟩ := bd_e hf
  refine Ct.callV (As := []) (rest := []) (st1 := []) (c_X1_drop l D cI (fun j => A (28 + j)) g a_3 ha_3) hx hb hml hown hts (cwV 0 hts gX4_harbour_X1_drop rfl rfl rfl hd_X1_drop ⟨Nat.le_of_ble_eq_true rfl, Nat.le_of_ble_eq_true rfl⟩) (va_recv hK hP (ci := 1) (q0 := 28) rfl cX_at28) ln_X_G hA hK hP hD hS rfl hl.1 rfl rfl (Nat.le_of_ble_eq_true rfl) dX4_harbour_27 (fun H locs hP hD hS => ?_)
  replace hP : va_P D vwCl (cX cI A n a_2.2 k a_3 w z q) H := hP
  replace hD : va_D AA (cX cI A n a_2.2 k a_3 w z q) := hD
  refine lv_iload_n hx hb dX4_harbour_30 rfl (lv_at hl 0 rfl) ?_
  refine lv_if_le (tgt := 45) hx hb dX4_harbour_31 (by decide) (fun c_4 => ?_) (fun c_4 => ?_)
  · replace hf := if_t c_4 hf
    refine lv_iload_n hx hb dX4_harbour_45 rfl (lv_at hl 0 rfl) ?_
    exact hend (a_2.1, n, a_2.2, a_3) H locs _ _ hf hP hS dX4_harbour_46
  · replace hf := if_f c_4 hf
    refine lv_aload_n hx hb dX4_harbour_34 rfl (lv_at hl 1 rfl) ?_
    refine va_get (D := D) (ci := 4) (v := .ref (A 1)) (C := RX4) (T := TX4) (N := 8) hx hb hts hw4 hown hK hP 0 cX_at0 rfl 0 (by decide) k10 (fun _ h9 => h9) rfl dX4_harbour_35 ?_
    refine lv_aload_n hx hb dX4_harbour_38 rfl (lv_at hl 1 rfl) ?_
    refine va_get (D := D) (ci := 4) (v := .ref (A 10)) (C := RX4) (T := TX4) (N := 8) hx hb hts hw4 hown hK hP 0 cX_at0 rfl 1 (by decide) k16 (fun _ h9 => h9) rfl dX4_harbour_39 ?_
    obtain ⟨a_5, ha_5, hf⟩ := bd_e hf
    refine Ct.callV (As := [.ref (A 10)]) (rest := []) (st1 := []) (c_X0_copyFrom l D cI (fun j => A (1 + j)) (fun j => A (10 + j)) n a_2.2 a_5 ha_5) hx hb hml hown hts (cwV 1 hts gX4_harbour_X0_copyFrom rfl rfl rfl hd_X0_copyFrom ⟨Nat.le_of_ble_eq_true rfl, Nat.le_of_ble_eq_true rfl⟩) (va_recv hK hP (ci := 0) (q0 := 1) rfl cX_at1) ln_X_HH_nt hA hK hP hD hS rfl hl.1 rfl rfl (Nat.le_of_ble_eq_true rfl) dX4_harbour_42 (fun H locs hP hD hS => ?_)
    replace hP : va_P D vwCl (cX cI A a_5 a_2.2 k a_3 w z q) H := hP
    replace hD : va_D AA (cX cI A a_5 a_2.2 k a_3 w z q) := hD
    refine lv_iload_n hx hb dX4_harbour_45 rfl (lv_at hl 0 rfl) ?_
    exact hend (a_2.1, a_5, a_2.2, a_3) H locs _ _ hf hP hS dX4_harbour_46
