/-! REFUSALS -/
def rf (q : St) (k : Nat) : St := su q 0 k (q 0 k + 1)
theorem rf_0 {q p : St} {k : Nat} (h : q 0 = p 0) : rf q k 0 = rf p k 0 := by
  funext j
  unfold rf su upd
  simp only [↓reduceIte, h]
theorem rf_o {q : St} {i k : Nat} (h : i ≠ 0) : rf q k i = q i := by
  funext j
  unfold rf
  exact su_ne (fun z => h z.1)
theorem hs_rf {c : G2} {G : St} {k : Nat} : su (hs c G) 0 k (hs c G 0 k + 1) = hs c (rf G k) := su_hs0
theorem X4_ref1 {n t k g w z q : St} : f_X4_refused n t k g w z q (-1) = some (-1, rf q 1) := by
  have e : (-(-1) : Int32) = nI 1 := by decide +kernel
  unfold f_X4_refused
  rw [e]
  simp (disch := omega) only [gi_nI, tn_nI, hs_1, hs_2, hs_3, hs_4, hs_5, hs_6, hs_7, hs_s, hs_m, hs_h, hs_t, lit_nI, nI_add, nI_mul, nI_eq, nI_leI, nI_ltI, nm_i, bd_s, ↓reduceIte]
  simp
  rfl
theorem X5_no1 {c : G2} {G : St} : f_X5_no (hs c G) (-1) = some (-1, hs c (rf G 1)) := by
  have e : (-(-1) : Int32) = nI 1 := by decide +kernel
  unfold f_X5_no
  rw [e]
  simp (disch := omega) only [gi_nI, tn_nI, hs_1, hs_2, hs_3, hs_4, hs_5, hs_6, hs_7, hs_s, hs_m, hs_h, hs_t, lit_nI, nI_add, nI_mul, nI_eq, nI_leI, nI_ltI, nm_i, bd_s, ↓reduceIte]
  rw [← hs_rf]
  rfl
theorem X4_ref2 {n t k g w z q : St} : f_X4_refused n t k g w z q (-2) = some (-2, rf q 2) := by
  have e : (-(-2) : Int32) = nI 2 := by decide +kernel
  unfold f_X4_refused
  rw [e]
  simp (disch := omega) only [gi_nI, tn_nI, hs_1, hs_2, hs_3, hs_4, hs_5, hs_6, hs_7, hs_s, hs_m, hs_h, hs_t, lit_nI, nI_add, nI_mul, nI_eq, nI_leI, nI_ltI, nm_i, bd_s, ↓reduceIte]
  simp
  rfl
theorem X5_no2 {c : G2} {G : St} : f_X5_no (hs c G) (-2) = some (-2, hs c (rf G 2)) := by
  have e : (-(-2) : Int32) = nI 2 := by decide +kernel
  unfold f_X5_no
  rw [e]
  simp (disch := omega) only [gi_nI, tn_nI, hs_1, hs_2, hs_3, hs_4, hs_5, hs_6, hs_7, hs_s, hs_m, hs_h, hs_t, lit_nI, nI_add, nI_mul, nI_eq, nI_leI, nI_ltI, nm_i, bd_s, ↓reduceIte]
  rw [← hs_rf]
  rfl
theorem X4_ref3 {n t k g w z q : St} : f_X4_refused n t k g w z q (-3) = some (-3, rf q 3) := by
  have e : (-(-3) : Int32) = nI 3 := by decide +kernel
  unfold f_X4_refused
  rw [e]
  simp (disch := omega) only [gi_nI, tn_nI, hs_1, hs_2, hs_3, hs_4, hs_5, hs_6, hs_7, hs_s, hs_m, hs_h, hs_t, lit_nI, nI_add, nI_mul, nI_eq, nI_leI, nI_ltI, nm_i, bd_s, ↓reduceIte]
  simp
  rfl
theorem X5_no3 {c : G2} {G : St} : f_X5_no (hs c G) (-3) = some (-3, hs c (rf G 3)) := by
  have e : (-(-3) : Int32) = nI 3 := by decide +kernel
  unfold f_X5_no
  rw [e]
  simp (disch := omega) only [gi_nI, tn_nI, hs_1, hs_2, hs_3, hs_4, hs_5, hs_6, hs_7, hs_s, hs_m, hs_h, hs_t, lit_nI, nI_add, nI_mul, nI_eq, nI_leI, nI_ltI, nm_i, bd_s, ↓reduceIte]
  rw [← hs_rf]
  rfl
theorem X4_ref4 {n t k g w z q : St} : f_X4_refused n t k g w z q (-4) = some (-4, rf q 4) := by
  have e : (-(-4) : Int32) = nI 4 := by decide +kernel
  unfold f_X4_refused
  rw [e]
  simp (disch := omega) only [gi_nI, tn_nI, hs_1, hs_2, hs_3, hs_4, hs_5, hs_6, hs_7, hs_s, hs_m, hs_h, hs_t, lit_nI, nI_add, nI_mul, nI_eq, nI_leI, nI_ltI, nm_i, bd_s, ↓reduceIte]
  simp
  rfl
theorem X5_no4 {c : G2} {G : St} : f_X5_no (hs c G) (-4) = some (-4, hs c (rf G 4)) := by
  have e : (-(-4) : Int32) = nI 4 := by decide +kernel
  unfold f_X5_no
  rw [e]
  simp (disch := omega) only [gi_nI, tn_nI, hs_1, hs_2, hs_3, hs_4, hs_5, hs_6, hs_7, hs_s, hs_m, hs_h, hs_t, lit_nI, nI_add, nI_mul, nI_eq, nI_leI, nI_ltI, nm_i, bd_s, ↓reduceIte]
  rw [← hs_rf]
  rfl
theorem X4_ref6 {n t k g w z q : St} : f_X4_refused n t k g w z q (-6) = some (-6, rf q 6) := by
  have e : (-(-6) : Int32) = nI 6 := by decide +kernel
  unfold f_X4_refused
  rw [e]
  simp (disch := omega) only [gi_nI, tn_nI, hs_1, hs_2, hs_3, hs_4, hs_5, hs_6, hs_7, hs_s, hs_m, hs_h, hs_t, lit_nI, nI_add, nI_mul, nI_eq, nI_leI, nI_ltI, nm_i, bd_s, ↓reduceIte]
  simp
  rfl
theorem X5_no6 {c : G2} {G : St} : f_X5_no (hs c G) (-6) = some (-6, hs c (rf G 6)) := by
  have e : (-(-6) : Int32) = nI 6 := by decide +kernel
  unfold f_X5_no
  rw [e]
  simp (disch := omega) only [gi_nI, tn_nI, hs_1, hs_2, hs_3, hs_4, hs_5, hs_6, hs_7, hs_s, hs_m, hs_h, hs_t, lit_nI, nI_add, nI_mul, nI_eq, nI_leI, nI_ltI, nm_i, bd_s, ↓reduceIte]
  rw [← hs_rf]
  rfl
