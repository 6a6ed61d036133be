/-! COPIES -/
def vd (i k : Nat) : Prop := (1 ≤ i ∧ i ≤ 3 ∧ k < 5) ∨ (4 ≤ i ∧ i ≤ 7 ∧ k < 8) ∨ (i = 16 ∧ k < 4)
/-- nothing outside the arrays' lengths -/
def Zc (c : G2) : Prop := ∀ i k, ¬ vd i k → c i k = 0
def cp (c d : G2) (x y : Nat) : G2 := fun i k => if (i = 16 ∧ k < 4) ∨ (1 ≤ i ∧ i ≤ 3 ∧ k < x) ∨ (4 ≤ i ∧ i ≤ 7 ∧ k < y) then c i k else d i k
theorem cp_0 {c d : G2} : gu (gu (gu (gu d 16 0 (c 16 0)) 16 1 (c 16 1)) 16 2 (c 16 2)) 16 3 (c 16 3) = cp c d 0 0 := by
  funext i k
  unfold gu cp
  by_cases h : i = 16
  · subst h
    by_cases h0 : k = 0
    · subst h0; simp
    · by_cases h1 : k = 1
      · subst h1; simp
      · by_cases h2 : k = 2
        · subst h2; simp
        · by_cases h3 : k = 3
          · subst h3; simp
          · have : ¬ k < 4 := by omega
            simp [h0, h1, h2, h3, this]
  · simp [h]
theorem cp_x {c d : G2} {j : Nat} : gu (gu (gu (cp c d j 0) 1 j (c 1 j)) 2 j (c 2 j)) 3 j (c 3 j) = cp c d (j + 1) 0 := by
  funext i k
  unfold gu cp
  by_cases hk : k = j
  · subst hk
    by_cases h1 : i = 1
    · subst h1; simp
    · by_cases h2 : i = 2
      · subst h2; simp
      · by_cases h3 : i = 3
        · subst h3; simp
        · have : ¬ (1 ≤ i ∧ i ≤ 3) := by omega
          have e1 : ¬ (1 ≤ i ∧ i ≤ 3 ∧ k < k) := by omega
          have e2 : ¬ (1 ≤ i ∧ i ≤ 3 ∧ k < k + 1) := by omega
          simp [h1, h2, h3, this]
  · have e : (k < j + 1) = (k < j) := by apply propext; omega
    simp [hk, e]
theorem cp_y {c d : G2} {j : Nat} : gu (gu (gu (gu (cp c d 5 j) 4 j (c 4 j)) 5 j (c 5 j)) 6 j (c 6 j)) 7 j (c 7 j) = cp c d 5 (j + 1) := by
  funext i k
  unfold gu cp
  by_cases hk : k = j
  · subst hk
    by_cases h1 : i = 4
    · subst h1; simp
    · by_cases h2 : i = 5
      · subst h2; simp
      · by_cases h3 : i = 6
        · subst h3; simp
        · by_cases h4 : i = 7
          · subst h4; simp
          · have e1 : ¬ (4 ≤ i ∧ i ≤ 7) := by omega
            simp [h1, h2, h3, h4, e1]
  · have e : (k < j + 1) = (k < j) := by apply propext; omega
    simp [hk, e]
theorem cp_e {c d : G2} (hc : Zc c) (hd : Zc d) : cp c d 5 8 = c := by
  funext i k
  unfold cp
  split
  · rfl
  · rename_i h
    have hv : ¬ vd i k := by
      unfold vd
      intro z
      apply h
      rcases z with z | z | z
      · exact Or.inr (Or.inl z)
      · exact Or.inr (Or.inr z)
      · exact Or.inl z
    rw [hc i k hv, hd i k hv]
theorem X0_copyFrom {c d : G2} {G Gt : St} (hc : Zc c) (hd : Zc d) : f_X0_copyFrom (hs d Gt) (hs c G) = some (hs c Gt) := by
  unfold f_X0_copyFrom
  simp (disch := omega) only [gi_nI, tn_nI, hs_1, hs_2, hs_3, hs_4, hs_5, hs_6, hs_7, hs_s, hs_m, hs_h, hs_t, lit_nI, nI_add, nI_mul, nI_eq, nI_leI, nI_ltI, nm_i, bd_s, su_hs16, ↓reduceIte]
  refine lp_d (S := fun j => (nI j, hs (cp c d j 0) Gt)) 5 (by rw [← cp_0]) (fun j hj nx => ?_) (fun nx => ?_) (by omega)
  · have h1 : ¬ 5 ≤ j := by omega
    simp (disch := omega) only [gi_nI, tn_nI, hs_1, hs_2, hs_3, hs_4, hs_5, hs_6, hs_7, hs_s, hs_m, hs_h, hs_t, lit_nI, nI_add, nI_mul, nI_eq, nI_leI, nI_ltI, nm_i, bd_s, h1, su_hs, cp_x, ↓reduceIte]
  · simp (disch := omega) only [gi_nI, tn_nI, hs_1, hs_2, hs_3, hs_4, hs_5, hs_6, hs_7, hs_s, hs_m, hs_h, hs_t, lit_nI, nI_add, nI_mul, nI_eq, nI_leI, nI_ltI, nm_i, bd_s, Nat.le_refl, ↓reduceIte]
    refine lp_d (S := fun j => (nI j, hs (cp c d 5 j) Gt)) 8 rfl (fun j hj nx => ?_) (fun nx => ?_) (by omega)
    · have h1 : ¬ 8 ≤ j := by omega
      simp (disch := omega) only [gi_nI, tn_nI, hs_1, hs_2, hs_3, hs_4, hs_5, hs_6, hs_7, hs_s, hs_m, hs_h, hs_t, lit_nI, nI_add, nI_mul, nI_eq, nI_leI, nI_ltI, nm_i, bd_s, h1, su_hs, cp_y, ↓reduceIte]
    · simp (disch := omega) only [gi_nI, tn_nI, hs_1, hs_2, hs_3, hs_4, hs_5, hs_6, hs_7, hs_s, hs_m, hs_h, hs_t, lit_nI, nI_add, nI_mul, nI_eq, nI_leI, nI_ltI, nm_i, bd_s, Nat.le_refl, cp_e hc hd, ↓reduceIte]
/-! the reference's keeping: a block of 51 numbers in the array 12, from place b on -/
/-- the places of a harbour's numbers in a block -/
def sp (c : G2) (x : Nat) : Nat := if x < 5 then c 1 x else if x < 10 then c 2 (x - 5) else if x < 15 then c 3 (x - 10) else if x < 23 then c 4 (x - 15) else if x < 31 then c 5 (x - 23) else if x < 39 then c 6 (x - 31) else if x < 47 then c 7 (x - 39) else c 16 (x - 47)
/-- the block at b spells c, up to place x -/
def Kp (G : St) (b x : Nat) (c : G2) : Prop := ∀ j, j < x → G 12 (b + j) = nI (sp c j)
