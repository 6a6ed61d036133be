/-! STORMS, and answers in bits -/
def st1 (c : G2) (j : Nat) : G2 := swp c 2 (fun s => c 3 s = 0) (fun s => min 99 (c 2 s + 2)) j
theorem stm_e {c : G2} : stm c = rsJ (st1 c (c 16 0)) (c 16 0) := rfl
theorem Iv_st1 {c : G2} {j : Nat} (hI : Iv c) : Iv (st1 c j) := Iv_swp hI (by decide) (by decide) (by decide) (fun k => by omega)
theorem st1_o {c : G2} {i j k : Nat} (h : i ≠ 2) : st1 c j i k = c i k := by unfold st1; rw [swp_o h]
theorem st1_2 {c : G2} {j k : Nat} (h : j ≤ k) : st1 c j 2 k = c 2 k := by unfold st1; rw [swp_k h]
theorem X0_storms {c : G2} {G : St} (hI : Iv c) : f_X0_storms (hs c G) = some (hs (stm c) G) := by
  have hS := hI.2.1
  unfold f_X0_storms
  refine lp_d (S := fun j => (nI j, hs (st1 c j) G)) (c 16 0) (by unfold st1; rw [swp_0]; rfl) (fun j hj nx => ?_) (fun nx => ?_) (by omega)
  · have hJ : Iv (st1 c j) := Iv_st1 hI
    have h1 : ¬ c 16 0 ≤ j := by omega
    have o0 : st1 c j 16 0 = c 16 0 := st1_o (by decide)
    have e1 := X0_loosen (G := G) (b := 2) hJ (show j < 5 by omega) (by omega)
    rw [st1_o (by decide), st1_2 (Nat.le_refl j)] at e1
    simp (disch := omega) only [gi_nI, tn_nI, hs_1, hs_2, hs_3, hs_4, hs_5, hs_6, hs_7, hs_s, hs_m, hs_h, hs_t, lit_nI, nI_add, nI_mul, nI_eq, nI_leI, nI_ltI, nm_i, bd_s, o0, h1, e1, ↓reduceIte]
    by_cases h3 : c 3 j = 0
    · have st := swp_t (c := c) (a := 2) (P := fun s => c 3 s = 0) (f := fun s => min 99 (c 2 s + 2)) (j := j) h3
      simp only [h3, ↓reduceIte]
      unfold st1
      rw [← st]
    · have st := swp_f (c := c) (a := 2) (P := fun s => c 3 s = 0) (f := fun s => min 99 (c 2 s + 2)) (j := j) h3
      simp only [h3, ↓reduceIte]
      unfold st1
      rw [← st]
  · have o0 : st1 c (c 16 0) 16 0 = c 16 0 := st1_o (by decide)
    have r := X0_riseAll (G := G) (Iv_st1 (j := c 16 0) hI)
    rw [o0] at r
    simp (disch := omega) only [gi_nI, tn_nI, hs_1, hs_2, hs_3, hs_4, hs_5, hs_6, hs_7, hs_s, hs_m, hs_h, hs_t, lit_nI, nI_add, nI_mul, nI_eq, nI_leI, nI_ltI, nm_i, bd_s, o0, Nat.le_refl, r, ↓reduceIte]
    rfl
theorem X5_storms {c : G2} {G : St} (hI : Iv c) (hO : ∀ s, c 3 s ≠ 0 → c 2 s = 0) : f_X5_storms (hs c G) = some (hs (stm c) G) := by
  have hS := hI.2.1
  unfold f_X5_storms
  refine lp_d (S := fun j => (nI j, hs (st1 c j) G)) (c 16 0) (by unfold st1; rw [swp_0]; rfl) (fun j hj nx => ?_) (fun nx => ?_) (by omega)
  · have hJ : Iv (st1 c j) := Iv_st1 hI
    have h1 : ¬ c 16 0 ≤ j := by omega
    have o0 : st1 c j 16 0 = c 16 0 := st1_o (by decide)
    have o3 : st1 c j 3 j = c 3 j := st1_o (by decide)
    have o2 : st1 c j 2 j = c 2 j := st1_2 (Nat.le_refl j)
    have b2 := hI.1 2 j
    have b3 := hI.1 3 j
    have k1 := X5_held (v := c 2 j + 2) (b := 99) (by omega) (by omega)
    rw [nI0'] at k1
    simp (disch := omega) only [gi_nI, tn_nI, hs_1, hs_2, hs_3, hs_4, hs_5, hs_6, hs_7, hs_s, hs_m, hs_h, hs_t, lit_nI, nI_add, nI_mul, nI_eq, nI_leI, nI_ltI, nm_i, bd_s, o0, o3, o2, h1, k1, su_hs, ↓reduceIte]
    by_cases h3 : c 3 j = 0
    · have st := swp_t (c := c) (a := 2) (P := fun s => c 3 s = 0) (f := fun s => min 99 (c 2 s + 2)) (j := j) h3
      have h4 : c 3 j ≤ 0 := by omega
      simp only [h4, ↓reduceIte]
      unfold st1
      rw [← st]
    · have st := swp_f (c := c) (a := 2) (P := fun s => c 3 s = 0) (f := fun s => min 99 (c 2 s + 2)) (j := j) h3
      have h4 : ¬ c 3 j ≤ 0 := by omega
      have e0 : gu (st1 c j) 2 j 0 = st1 c j := by
        have : (0 : Nat) = st1 c j 2 j := by rw [o2, hO j h3]
        rw [this, gu_same]
      simp only [h4, ↓reduceIte, e0]
      unfold st1
      rw [← st]
  · have o0 : st1 c (c 16 0) 16 0 = c 16 0 := st1_o (by decide)
    have r := X5_rises (G := G) (Iv_st1 (j := c 16 0) hI)
    rw [o0] at r
    simp (disch := omega) only [gi_nI, tn_nI, hs_1, hs_2, hs_3, hs_4, hs_5, hs_6, hs_7, hs_s, hs_m, hs_h, hs_t, lit_nI, nI_add, nI_mul, nI_eq, nI_leI, nI_ltI, nm_i, bd_s, o0, Nat.le_refl, r, ↓reduceIte]
    rfl
theorem or0 {x : Int32} : x ||| nI 0 = x := by show x ||| 0 = x; simp
def ouN (c : G2) : Nat → Int32
  | 0 => 0
  | j + 1 => if c 3 j = 0 then ouN c j else ouN c j ||| (nI 1 <<< (nI j &&& nI 31))
def ouB (c : G2) : Int32 := ouN c (c 16 0)
theorem X0_outBits {c : G2} {G : St} (hI : Iv c) : f_X0_outBits (hs c G) = some (ouB c) := by
  have hS := hI.2.1
  unfold f_X0_outBits
  refine lp_d (S := fun j => (ouN c j, nI j)) (c 16 0) rfl (fun j hj nx => ?_) (fun nx => ?_) (by omega)
  · have h1 : ¬ c 16 0 ≤ j := by omega
    have e := X0_isIn (G := G) hI (show j < 5 by omega)
    simp (disch := omega) only [gi_nI, tn_nI, hs_1, hs_2, hs_3, hs_4, hs_5, hs_6, hs_7, hs_s, hs_m, hs_h, hs_t, lit_nI, nI_add, nI_mul, nI_eq, nI_leI, nI_ltI, nm_i, bd_s, h1, e, ↓reduceIte]
    by_cases h3 : c 3 j = 0 <;> simp (disch := omega) only [h3, ouN, ↓reduceIte, nI_eq]
    simp
  · simp (disch := omega) only [gi_nI, tn_nI, hs_1, hs_2, hs_3, hs_4, hs_5, hs_6, hs_7, hs_s, hs_m, hs_h, hs_t, lit_nI, nI_add, nI_mul, nI_eq, nI_leI, nI_ltI, nm_i, bd_s, Nat.le_refl, ↓reduceIte]
    rfl
theorem X5_outOnes {c : G2} {G : St} (hI : Iv c) : f_X5_outOnes (hs c G) = some (ouB c) := by
  have hS := hI.2.1
  unfold f_X5_outOnes
  refine lp_d (S := fun j => (ouN c j, nI j)) (c 16 0) rfl (fun j hj nx => ?_) (fun nx => ?_) (by omega)
  · have h1 : ¬ c 16 0 ≤ j := by omega
    have b3 := hI.1 3 j
    simp (disch := omega) only [gi_nI, tn_nI, hs_1, hs_2, hs_3, hs_4, hs_5, hs_6, hs_7, hs_s, hs_m, hs_h, hs_t, lit_nI, nI_add, nI_mul, nI_eq, nI_leI, nI_ltI, nm_i, bd_s, h1, or0, ↓reduceIte]
    by_cases h3 : c 3 j = 0
    · have h4 : c 3 j ≤ 0 := by omega
      simp only [h3, h4, ouN, ↓reduceIte]
      simp
    · have h4 : ¬ c 3 j ≤ 0 := by omega
      simp only [h3, h4, ouN, ↓reduceIte]
  · simp (disch := omega) only [gi_nI, tn_nI, hs_1, hs_2, hs_3, hs_4, hs_5, hs_6, hs_7, hs_s, hs_m, hs_h, hs_t, lit_nI, nI_add, nI_mul, nI_eq, nI_leI, nI_ltI, nm_i, bd_s, Nat.le_refl, ↓reduceIte]
    rfl
def cwN (c : G2) (s : Nat) : Nat → Int32
  | 0 => 0
  | j + 1 => if c 7 j = s then cwN c s j ||| (nI 1 <<< (nI j &&& nI 31)) else cwN c s j
def cwB (c : G2) (s : Nat) : Int32 := cwN c s (c 16 1)
theorem X0_crew {c : G2} {G : St} {s : Nat} (hI : Iv c) (h : s < 5) : f_X0_crew (hs c G) (nI s) = some (cwB c s) := by
  have hN := hI.2.2.1
  unfold f_X0_crew
  refine lp_d (S := fun j => (cwN c s j, nI j)) (c 16 1) rfl (fun j hj nx => ?_) (fun nx => ?_) (by omega)
  · have h1 : ¬ c 16 1 ≤ j := by omega
    have b3 := hI.1 7 j
    simp (disch := omega) only [gi_nI, tn_nI, hs_1, hs_2, hs_3, hs_4, hs_5, hs_6, hs_7, hs_s, hs_m, hs_h, hs_t, lit_nI, nI_add, nI_mul, nI_eq, nI_leI, nI_ltI, nm_i, bd_s, h1, ↓reduceIte]
    by_cases h3 : c 7 j = s <;> simp only [h3, cwN, ↓reduceIte]
  · simp (disch := omega) only [gi_nI, tn_nI, hs_1, hs_2, hs_3, hs_4, hs_5, hs_6, hs_7, hs_s, hs_m, hs_h, hs_t, lit_nI, nI_add, nI_mul, nI_eq, nI_leI, nI_ltI, nm_i, bd_s, Nat.le_refl, ↓reduceIte]
    rfl
theorem X5_crew {c : G2} {G : St} {s : Nat} (hI : Iv c) (h : s < 5) : f_X5_crew (hs c G) (nI s) = some (cwB c s) := by
  have hN := hI.2.2.1
  unfold f_X5_crew
  refine lp_d (S := fun j => (cwN c s j, nI j)) (c 16 1) rfl (fun j hj nx => ?_) (fun nx => ?_) (by omega)
  · have h1 : ¬ c 16 1 ≤ j := by omega
    have b3 := hI.1 7 j
    simp (disch := omega) only [gi_nI, tn_nI, hs_1, hs_2, hs_3, hs_4, hs_5, hs_6, hs_7, hs_s, hs_m, hs_h, hs_t, lit_nI, nI_add, nI_mul, nI_eq, nI_leI, nI_ltI, nm_i, bd_s, h1, or0, ↓reduceIte]
    by_cases h3 : c 7 j = s <;> simp only [h3, cwN, ↓reduceIte]
  · simp (disch := omega) only [gi_nI, tn_nI, hs_1, hs_2, hs_3, hs_4, hs_5, hs_6, hs_7, hs_s, hs_m, hs_h, hs_t, lit_nI, nI_add, nI_mul, nI_eq, nI_leI, nI_ltI, nm_i, bd_s, Nat.le_refl, ↓reduceIte]
    rfl
