/-! the reference's pure functions -/
theorem nI_md {a b : Nat} : nI a - nI (a / b * b) = nI (a % b) := by
  rw [nI_sub (Nat.div_mul_le_self a b)]
  congr 1
  have := Nat.div_add_mod a b
  rw [Nat.mul_comm] at this
  omega
theorem X5_worthOn {c : G2} {G : St} {m t : Nat} (hI : Iv c) (h : m < 8) (ht0 : t ≤ 20000) : f_X5_worthOn (hs c G) (nI m) (nI t) = some (nI (wtT c m t)) := by
  have h4 := hI.2.2.2.1 m
  have h5 := hI.1 5 m
  unfold f_X5_worthOn wtT asM asH
  have hm : t % 2 = 0 ∨ t % 2 = 1 := by omega
  rcases hm with ht | ht <;> rcases k06 h4 with e | e | e | e | e | e <;> simp (disch := omega) only [gi_nI, tn_nI, hs_1, hs_2, hs_3, hs_4, hs_5, hs_6, hs_7, hs_s, hs_m, hs_h, hs_t, lit_nI, nI_add, nI_mul, nI_eq, nI_leI, nI_ltI, nm_i, bd_s, e, ht, nI_md, nI_div, ↓reduceIte] <;> ((repeat' split) <;> first | rfl | omega | (refine congrArg (fun z => some (nI z)) ?_; omega) | (exfalso; omega))
theorem X5_worth {c : G2} {G : St} {m : Nat} (hI : Iv c) (h : m < 8) : f_X5_worth (hs c G) (nI m) = some (nI (wth c m)) := by
  have h3 := hI.1 16 3
  have hW := X5_worthOn (G := G) (t := c 16 3) hI h (by omega)
  unfold f_X5_worth
  simp (disch := omega) only [gi_nI, tn_nI, hs_1, hs_2, hs_3, hs_4, hs_5, hs_6, hs_7, hs_s, hs_m, hs_h, hs_t, lit_nI, nI_add, nI_mul, nI_eq, nI_leI, nI_ltI, nm_i, bd_s, hW, ↓reduceIte]
  rfl
theorem X5_heardOf {c : G2} {G : St} {m : Nat} (hI : Iv c) (h : m < 8) : f_X5_heardOf (hs c G) (nI m) = some (nI (crd c m)) := by
  have hW := X5_worth (G := G) hI h
  have hl := wth_le (m := m) hI
  have h4 := hI.1 4 m
  unfold f_X5_heardOf crd
  simp (disch := omega) only [gi_nI, tn_nI, hs_1, hs_2, hs_3, hs_4, hs_5, hs_6, hs_7, hs_s, hs_m, hs_h, hs_t, lit_nI, nI_add, nI_mul, nI_eq, nI_leI, nI_ltI, nm_i, bd_s, hW, nI_div, ↓reduceIte]
  ((repeat' split) <;> first | rfl | omega | (refine congrArg (fun z => some (nI z)) ?_; omega) | (exfalso; omega))
theorem X5_moreSins {c : G2} {G : St} {m : Nat} (hI : Iv c) (h : m < 8) : f_X5_moreSins (hs c G) (nI m) = some (nI (mor c m)) := by
  have h4 := hI.2.2.2.1 m
  unfold f_X5_moreSins mor
  simp (disch := omega) only [gi_nI, tn_nI, hs_1, hs_2, hs_3, hs_4, hs_5, hs_6, hs_7, hs_s, hs_m, hs_h, hs_t, lit_nI, nI_add, nI_mul, nI_eq, nI_leI, nI_ltI, nm_i, bd_s, ↓reduceIte]
  rcases k06 h4 with e | e | e | e | e | e <;> simp [e]
theorem X5_holds {c : G2} {G : St} {s : Nat} (hI : Iv c) (h : s < 5) : f_X5_holds (hs c G) (nI s) = some (nI (hld c s)) := by
  have h1 := hI.1 1 s
  have h2 := hI.1 16 2
  have h3 := hI.1 16 3
  unfold f_X5_holds hld
  simp (disch := omega) only [gi_nI, tn_nI, hs_1, hs_2, hs_3, hs_4, hs_5, hs_6, hs_7, hs_s, hs_m, hs_h, hs_t, lit_nI, nI_add, nI_mul, nI_eq, nI_leI, nI_ltI, nm_i, bd_s, nI_div, nI_md, ↓reduceIte]
  by_cases ht : c 16 3 % 2 = 0 <;> simp [ht]
theorem X5_lacks {c : G2} {G : St} {s : Nat} (hI : Iv c) (h : s < 5) : f_X5_lacks (hs c G) (nI s) = some (nI (lck c s)) := by
  have hH := X5_holds (G := G) hI h
  have hl := hld_le (s := s) hI
  have g2 := hI.1 2 s
  have g3 := hI.1 3 s
  unfold f_X5_lacks lck
  simp (disch := omega) only [gi_nI, tn_nI, hs_1, hs_2, hs_3, hs_4, hs_5, hs_6, hs_7, hs_s, hs_m, hs_h, hs_t, lit_nI, nI_add, nI_mul, nI_eq, nI_leI, nI_ltI, nm_i, bd_s, hH, ↓reduceIte]
  by_cases h0 : c 3 s = 0
  · simp only [h0, Nat.lt_irrefl, ↓reduceIte]
    by_cases h1 : c 2 s < hld c s
    · simp (disch := omega) only [gi_nI, tn_nI, hs_1, hs_2, hs_3, hs_4, hs_5, hs_6, hs_7, hs_s, hs_m, hs_h, hs_t, lit_nI, nI_add, nI_mul, nI_eq, nI_leI, nI_ltI, nm_i, bd_s, h1, nI_sub, ↓reduceIte]
    · simp only [h1, ↓reduceIte]
      ((repeat' split) <;> first | rfl | omega | (refine congrArg (fun z => some (nI z)) ?_; omega) | (exfalso; omega))
  · have : 0 < c 3 s := by omega
    simp only [h0, this, ↓reduceIte]
theorem X5_isMan {c : G2} {G : St} {m : Nat} (hI : Iv c) (h : m < 2147483648) : f_X5_isMan (hs c G) (nI m) = some (nI (if m < c 16 1 then 1 else 0)) := by
  have hN := hI.2.2.1
  unfold f_X5_isMan
  simp (disch := omega) only [gi_nI, tn_nI, hs_1, hs_2, hs_3, hs_4, hs_5, hs_6, hs_7, hs_s, hs_m, hs_h, hs_t, lit_nI, nI_add, nI_mul, nI_eq, nI_leI, nI_ltI, nm_i, bd_s, ↓reduceIte]
  by_cases h1 : m < c 16 1
  · have : ¬ c 16 1 ≤ m := by omega
    simp [h1, this, fz1]
  · have : c 16 1 ≤ m := by omega
    simp [h1, this, fz0]
theorem X5_isShip {c : G2} {G : St} {m : Nat} (hI : Iv c) (h : m < 2147483648) : f_X5_isShip (hs c G) (nI m) = some (nI (if m < c 16 0 then 1 else 0)) := by
  have hN := hI.2.1
  unfold f_X5_isShip
  simp (disch := omega) only [gi_nI, tn_nI, hs_1, hs_2, hs_3, hs_4, hs_5, hs_6, hs_7, hs_s, hs_m, hs_h, hs_t, lit_nI, nI_add, nI_mul, nI_eq, nI_leI, nI_ltI, nm_i, bd_s, ↓reduceIte]
  by_cases h1 : m < c 16 0
  · have : ¬ c 16 0 ≤ m := by omega
    simp [h1, this, fz1]
  · have : c 16 0 ≤ m := by omega
    simp [h1, this, fz0]
theorem X0_hasShip {c : G2} {G : St} {m : Nat} (hI : Iv c) (h : m < 2147483648) : f_X0_hasShip (hs c G) (nI m) = some (nI (if m < c 16 0 then 1 else 0)) := by
  have hN := hI.2.1
  unfold f_X0_hasShip
  simp (disch := omega) only [gi_nI, tn_nI, hs_1, hs_2, hs_3, hs_4, hs_5, hs_6, hs_7, hs_s, hs_m, hs_h, hs_t, lit_nI, nI_add, nI_mul, nI_eq, nI_leI, nI_ltI, nm_i, bd_s, ↓reduceIte]
  by_cases h1 : m < c 16 0
  · have : ¬ c 16 0 ≤ m := by omega
    simp [h1, this, fz1]
  · have : c 16 0 ≤ m := by omega
    simp [h1, this, fz0]
theorem X5_poolOn {c : G2} {G : St} {s t : Nat} (hI : Iv c) (h : s < 5) (ht0 : t ≤ 20000) : f_X5_poolOn (hs c G) (nI s) (nI t) = some (nI (poT c s t)) := by
  have hN := hI.2.2.1
  have hS := hI.2.1
  unfold f_X5_poolOn
  refine lp_c (S := fun j => (nI (poN c s t j), nI j)) (c 16 1) (fun j hj nx => ?_) (fun nx => ?_) (by omega)
  · have h1 : ¬ c 16 1 ≤ j := by omega
    have h2 := hI.2.2.2.2 j hj
    have h3 := X5_worthOn (G := G) (t := t) hI (show j < 8 by omega) ht0
    simp (disch := omega) only [gi_nI, tn_nI, hs_1, hs_2, hs_3, hs_4, hs_5, hs_6, hs_7, hs_s, hs_m, hs_h, hs_t, lit_nI, nI_add, nI_mul, nI_eq, nI_leI, nI_ltI, nm_i, bd_s, h1, h3, ↓reduceIte]
    by_cases h4 : c 7 j = s
    · simp (disch := omega) only [h4, poN, ↓reduceIte, nI_eq]
    · simp (disch := omega) only [h4, poN, ↓reduceIte, nI_eq, Nat.add_zero]
  · simp (disch := omega) only [gi_nI, tn_nI, hs_1, hs_2, hs_3, hs_4, hs_5, hs_6, hs_7, hs_s, hs_m, hs_h, hs_t, lit_nI, nI_add, nI_mul, nI_eq, nI_leI, nI_ltI, nm_i, bd_s, ↓reduceIte]
    simp only [Nat.le_refl, ↓reduceIte]
    rfl
theorem X5_pool {c : G2} {G : St} {s : Nat} (hI : Iv c) (h : s < 5) : f_X5_pool (hs c G) (nI s) = some (nI (pol c s)) := by
  have h3 := hI.1 16 3
  have hW := X5_poolOn (G := G) (t := c 16 3) hI h (by omega)
  unfold f_X5_pool
  simp (disch := omega) only [gi_nI, tn_nI, hs_1, hs_2, hs_3, hs_4, hs_5, hs_6, hs_7, hs_s, hs_m, hs_h, hs_t, lit_nI, nI_add, nI_mul, nI_eq, nI_leI, nI_ltI, nm_i, bd_s, hW, ↓reduceIte]
  rfl
/-! both -/
theorem X0_canTell {c : G2} {G : St} {m : Nat} (hI : Iv c) (h : m < 2147483648) : f_X0_canTell (hs c G) (nI m) = some (nI (if m < c 16 1 ∧ 0 < c 6 m ∧ c 3 (c 7 m) = 0 then 1 else 0)) := by
  have hN := hI.2.2.1
  have hS := hI.2.1
  have hM := X0_hasMan (G := G) hI h
  unfold f_X0_canTell
  by_cases h1 : m < c 16 1
  · have h2 := hI.2.2.2.2 m h1
    have hE := X0_isIn (G := G) hI (show c 7 m < 5 by omega)
    have g6 := hI.1 6 m
    have g3 := hI.1 3 (c 7 m)
    simp (disch := omega) only [gi_nI, tn_nI, hs_1, hs_2, hs_3, hs_4, hs_5, hs_6, hs_7, hs_s, hs_m, hs_h, hs_t, lit_nI, nI_add, nI_mul, nI_eq, nI_leI, nI_ltI, nm_i, bd_s, hM, h1, hE, bd_s, ↓reduceIte]
    by_cases h6 : c 6 m ≤ 0
    · have : ¬ 0 < c 6 m := by omega
      simp (disch := omega) [h6, this, nI_eq, fz0]
    · have : 0 < c 6 m := by omega
      by_cases h3 : c 3 (c 7 m) = 0 <;> simp (disch := omega) [h6, this, h3, nI_eq, fz0, fz1]
  · simp (disch := omega) only [gi_nI, tn_nI, hs_1, hs_2, hs_3, hs_4, hs_5, hs_6, hs_7, hs_s, hs_m, hs_h, hs_t, lit_nI, nI_add, nI_mul, nI_eq, nI_leI, nI_ltI, nm_i, bd_s, hM, h1, bd_s, ↓reduceIte]
    simp (disch := omega) [h1, nI_eq, fz0]
theorem X5_canTell {c : G2} {G : St} {m : Nat} (hI : Iv c) (h : m < 2147483648) : f_X5_canTell (hs c G) (nI m) = some (nI (if m < c 16 1 ∧ 0 < c 6 m ∧ c 3 (c 7 m) = 0 then 1 else 0)) := by
  have hN := hI.2.2.1
  have hS := hI.2.1
  have hM := X5_isMan (G := G) hI h
  unfold f_X5_canTell
  by_cases h1 : m < c 16 1
  · have h2 := hI.2.2.2.2 m h1
    have g6 := hI.1 6 m
    have g3 := hI.1 3 (c 7 m)
    simp (disch := omega) only [gi_nI, tn_nI, hs_1, hs_2, hs_3, hs_4, hs_5, hs_6, hs_7, hs_s, hs_m, hs_h, hs_t, lit_nI, nI_add, nI_mul, nI_eq, nI_leI, nI_ltI, nm_i, bd_s, hM, h1, bd_s, ↓reduceIte]
    by_cases h6 : c 6 m ≤ 0
    · have : ¬ 0 < c 6 m := by omega
      simp (disch := omega) [h6, this, nI_eq, fz0]
    · have : 0 < c 6 m := by omega
      by_cases h3 : c 3 (c 7 m) = 0 <;> simp (disch := omega) [h6, this, h3, nI_eq, fz0, fz1]
  · simp (disch := omega) only [gi_nI, tn_nI, hs_1, hs_2, hs_3, hs_4, hs_5, hs_6, hs_7, hs_s, hs_m, hs_h, hs_t, lit_nI, nI_add, nI_mul, nI_eq, nI_leI, nI_ltI, nm_i, bd_s, hM, h1, bd_s, ↓reduceIte]
    simp (disch := omega) [h1, nI_eq, fz0]
theorem X0_canRise {c : G2} {G : St} {s : Nat} (hI : Iv c) (h : s < 5) : f_X0_canRise (hs c G) (nI s) = some (nI (if c 3 s = 0 ∧ lck c s ≤ pol c s then 1 else 0)) := by
  have h1 := X0_isIn (G := G) hI h
  have h2 := X0_pool (G := G) hI h
  have h3 := X0_lacks (G := G) hI h
  have h4 := pol_le (s := s) hI
  have h5 := lck_le (s := s) hI
  unfold f_X0_canRise
  simp (disch := omega) only [gi_nI, tn_nI, hs_1, hs_2, hs_3, hs_4, hs_5, hs_6, hs_7, hs_s, hs_m, hs_h, hs_t, lit_nI, nI_add, nI_mul, nI_eq, nI_leI, nI_ltI, nm_i, bd_s, h1, h2, h3, ↓reduceIte]
  by_cases h6 : c 3 s = 0
  · by_cases h7 : pol c s < lck c s
    · have : ¬ lck c s ≤ pol c s := by omega
      simp (disch := omega) [h6, h7, this, nI_eq, fz0]
    · have : lck c s ≤ pol c s := by omega
      simp (disch := omega) [h6, h7, this, nI_eq, fz1]
  · simp (disch := omega) [h6, nI_eq, fz0]
theorem X5_canRise {c : G2} {G : St} {s : Nat} (hI : Iv c) (h : s < 5) : f_X5_canRise (hs c G) (nI s) = some (nI (if c 3 s = 0 ∧ lck c s ≤ pol c s then 1 else 0)) := by
  have h1 := hI.1 3 s
  have h2 := X5_pool (G := G) hI h
  have h3 := X5_lacks (G := G) hI h
  have h4 := pol_le (s := s) hI
  have h5 := lck_le (s := s) hI
  unfold f_X5_canRise
  simp (disch := omega) only [gi_nI, tn_nI, hs_1, hs_2, hs_3, hs_4, hs_5, hs_6, hs_7, hs_s, hs_m, hs_h, hs_t, lit_nI, nI_add, nI_mul, nI_eq, nI_leI, nI_ltI, nm_i, bd_s, h2, h3, ↓reduceIte]
  by_cases h6 : c 3 s = 0
  · by_cases h7 : pol c s < lck c s
    · have : ¬ lck c s ≤ pol c s := by omega
      simp (disch := omega) [h6, h7, this, nI_eq, fz0]
    · have : lck c s ≤ pol c s := by omega
      simp (disch := omega) [h6, h7, this, nI_eq, fz1]
  · simp (disch := omega) [h6, nI_eq, fz0]
def rcN (c : G2) : Nat → Nat
  | 0 => 0
  | j + 1 => rcN c j + if c 3 j = 0 ∧ lck c j ≤ pol c j then 1 else 0
def rcA (c : G2) : Nat := rcN c (c 16 0)
theorem X0_countRisable {c : G2} {G : St} (hI : Iv c) : f_X0_countRisable (hs c G) = some (nI (rcA c)) := by
  have hS := hI.2.1
  unfold f_X0_countRisable
  refine lp_c (S := fun j => (nI (rcN c j), nI j)) (c 16 0) (fun j hj nx => ?_) (fun nx => ?_) (by omega)
  · have h1 : ¬ c 16 0 ≤ j := by omega
    have h3 := X0_canRise (G := G) hI (show j < 5 by omega)
    simp (disch := omega) only [gi_nI, tn_nI, hs_1, hs_2, hs_3, hs_4, hs_5, hs_6, hs_7, hs_s, hs_m, hs_h, hs_t, lit_nI, nI_add, nI_mul, nI_eq, nI_leI, nI_ltI, nm_i, bd_s, h1, h3, ↓reduceIte]
    by_cases h4 : c 3 j = 0 ∧ lck c j ≤ pol c j
    · simp (disch := omega) only [h4, and_self, rcN, ↓reduceIte, nI_eq]
      simp
    · simp (disch := omega) only [h4, rcN, ↓reduceIte, nI_eq, Nat.add_zero]
  · simp (disch := omega) only [gi_nI, tn_nI, hs_1, hs_2, hs_3, hs_4, hs_5, hs_6, hs_7, hs_s, hs_m, hs_h, hs_t, lit_nI, nI_add, nI_mul, nI_eq, nI_leI, nI_ltI, nm_i, bd_s, ↓reduceIte]
    simp only [Nat.le_refl, ↓reduceIte]
    rfl
theorem X5_canRiseOnes {c : G2} {G : St} (hI : Iv c) : f_X5_canRiseOnes (hs c G) = some (nI (rcA c)) := by
  have hS := hI.2.1
  unfold f_X5_canRiseOnes
  refine lp_c (S := fun j => (nI (rcN c j), nI j)) (c 16 0) (fun j hj nx => ?_) (fun nx => ?_) (by omega)
  · have h1 : ¬ c 16 0 ≤ j := by omega
    have h3 := X5_canRise (G := G) hI (show j < 5 by omega)
    simp (disch := omega) only [gi_nI, tn_nI, hs_1, hs_2, hs_3, hs_4, hs_5, hs_6, hs_7, hs_s, hs_m, hs_h, hs_t, lit_nI, nI_add, nI_mul, nI_eq, nI_leI, nI_ltI, nm_i, bd_s, h1, h3, ↓reduceIte]
    by_cases h4 : c 3 j = 0 ∧ lck c j ≤ pol c j
    · simp (disch := omega) only [h4, and_self, rcN, ↓reduceIte, nI_eq]
      simp
    · simp (disch := omega) only [h4, rcN, ↓reduceIte, nI_eq, Nat.add_zero]
  · simp (disch := omega) only [gi_nI, tn_nI, hs_1, hs_2, hs_3, hs_4, hs_5, hs_6, hs_7, hs_s, hs_m, hs_h, hs_t, lit_nI, nI_add, nI_mul, nI_eq, nI_leI, nI_ltI, nm_i, bd_s, ↓reduceIte]
    simp only [Nat.le_refl, ↓reduceIte]
    rfl
def alN (c : G2) : Nat → Nat
  | 0 => 0
  | j + 1 => alN c j + c 6 j
def alS (c : G2) : Nat := alN c (c 16 1)
theorem X0_allSins {c : G2} {G : St} (hI : Iv c) : f_X0_allSins (hs c G) = some (nI (alS c)) := by
  have hN := hI.2.2.1
  unfold f_X0_allSins
  refine lp_c (S := fun j => (nI (alN c j), nI j)) (c 16 1) (fun j hj nx => ?_) (fun nx => ?_) (by omega)
  · have h1 : ¬ c 16 1 ≤ j := by omega
    simp (disch := omega) only [gi_nI, tn_nI, hs_1, hs_2, hs_3, hs_4, hs_5, hs_6, hs_7, hs_s, hs_m, hs_h, hs_t, lit_nI, nI_add, nI_mul, nI_eq, nI_leI, nI_ltI, nm_i, bd_s, h1, alN, ↓reduceIte]
  · simp (disch := omega) only [gi_nI, tn_nI, hs_1, hs_2, hs_3, hs_4, hs_5, hs_6, hs_7, hs_s, hs_m, hs_h, hs_t, lit_nI, nI_add, nI_mul, nI_eq, nI_leI, nI_ltI, nm_i, bd_s, ↓reduceIte]
    simp only [Nat.le_refl, ↓reduceIte]
    rfl
theorem X5_allSins {c : G2} {G : St} (hI : Iv c) : f_X5_allSins (hs c G) = some (nI (alS c)) := by
  have hN := hI.2.2.1
  unfold f_X5_allSins
  refine lp_c (S := fun j => (nI (alN c j), nI j)) (c 16 1) (fun j hj nx => ?_) (fun nx => ?_) (by omega)
  · have h1 : ¬ c 16 1 ≤ j := by omega
    simp (disch := omega) only [gi_nI, tn_nI, hs_1, hs_2, hs_3, hs_4, hs_5, hs_6, hs_7, hs_s, hs_m, hs_h, hs_t, lit_nI, nI_add, nI_mul, nI_eq, nI_leI, nI_ltI, nm_i, bd_s, h1, alN, ↓reduceIte]
  · simp (disch := omega) only [gi_nI, tn_nI, hs_1, hs_2, hs_3, hs_4, hs_5, hs_6, hs_7, hs_s, hs_m, hs_h, hs_t, lit_nI, nI_add, nI_mul, nI_eq, nI_leI, nI_ltI, nm_i, bd_s, ↓reduceIte]
    simp only [Nat.le_refl, ↓reduceIte]
    rfl
