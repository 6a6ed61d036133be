/-! KEEPING AND PUTTING BACK, array by array -/
theorem su_at {G : St} {a k : Nat} {v : Int32} : su G a k v a k = v := by simp [su, upd]
theorem su_ne {G : St} {a k i j : Nat} {v : Int32} (h : ¬ (i = a ∧ j = k)) : su G a k v i j = G i j := by
  unfold su
  by_cases h1 : i = a
  · subst h1
    have : j ≠ k := fun e => h ⟨rfl, e⟩
    simp [upd, this]
  · simp [h1]
theorem su_self {G : St} {a k : Nat} {v : Int32} (h : G a k = v) : su G a k v = G := by
  funext i j
  by_cases h1 : i = a ∧ j = k
  · rw [h1.1, h1.2, su_at, h]
  · rw [su_ne h1]
theorem su_su {G : St} {a k : Nat} {v w : Int32} : su (su G a k v) a k w = su G a k w := by
  funext i j
  by_cases h1 : i = a ∧ j = k
  · rw [h1.1, h1.2, su_at, su_at]
  · rw [su_ne h1, su_ne h1, su_ne h1]
def kwJ (G : St) (f : Nat → Nat) (o j : Nat) : St := fun i k => if i = 12 ∧ o ≤ k ∧ k < o + j then nI (f (k - o)) else if i = 16 ∧ k = 9 then nI (o + j) else G i k
theorem kw_0 {G : St} {f : Nat → Nat} {o : Nat} (h : G 16 9 = nI o) : kwJ G f o 0 = G := by
  funext i k
  unfold kwJ
  rw [if_neg (by omega)]
  split
  · rename_i h1
    rw [h1.1, h1.2, h]; rfl
  · rfl
theorem kw_s {G : St} {f : Nat → Nat} {o j : Nat} : su (su (kwJ G f o j) 12 (o + j) (nI (f j))) 16 9 (nI (o + j + 1)) = kwJ G f o (j + 1) := by
  funext i k
  by_cases h1 : i = 16 ∧ k = 9
  · rw [h1.1, h1.2, su_at]
    unfold kwJ
    rw [if_neg (by omega), if_pos ⟨rfl, rfl⟩]; rfl
  · rw [su_ne h1]
    by_cases h2 : i = 12 ∧ k = o + j
    · rw [h2.1, h2.2, su_at]
      unfold kwJ
      rw [if_pos ⟨rfl, by omega, by omega⟩]
      congr 2
      omega
    · rw [su_ne h2]
      unfold kwJ
      rw [if_neg h1, if_neg h1]
      by_cases h3 : i = 12 ∧ o ≤ k ∧ k < o + j
      · rw [if_pos h3, if_pos ⟨h3.1, h3.2.1, by omega⟩]
      · rw [if_neg h3, if_neg (by omega)]
theorem kw_9 {G : St} {f : Nat → Nat} {o j : Nat} : kwJ G f o j 16 9 = nI (o + j) := by
  unfold kwJ
  rw [if_neg (by omega), if_pos ⟨rfl, rfl⟩]
theorem kw_16 {G : St} {f : Nat → Nat} {o j k : Nat} (h : k ≠ 9) : kwJ G f o j 16 k = G 16 k := by
  unfold kwJ
  rw [if_neg (by omega), if_neg (by omega)]
theorem keep_1 {c : G2} {G : St} {o : Nat} (h8 : G 16 8 = nI 1) (h9 : G 16 9 = nI o) (ho : o + 5 ≤ 153) : f_X5_passes_a2 (hs c G) = some (hs c (kwJ G (c 1) o 5)) := by
  unfold f_X5_passes_a2
  refine lp_d (S := fun j => (nI j, hs c (kwJ G (c 1) o j))) 5 (by rw [kw_0 h9]; rfl) (fun j hj nx => ?_) (fun nx => ?_) (by omega)
  · have h1 : ¬ 5 ≤ j := by omega
    have r8 : hs c (kwJ G (c 1) o j) 16 8 = nI 1 := by rw [hs_16 (by omega), kw_16 (by decide), h8]
    have r9 : hs c (kwJ G (c 1) o j) 16 9 = nI (o + j) := by rw [hs_16 (by omega), kw_9]
    have r9' : hs c (su (kwJ G (c 1) o j) 12 (o + j) (nI (c 1 j))) 16 9 = nI (o + j) := by rw [hs_16 (by omega), su_ne (by omega), kw_9]
    have u1 : su (hs c (kwJ G (c 1) o j)) 12 (o + j) (nI (c 1 j)) = hs c (su (kwJ G (c 1) o j) 12 (o + j) (nI (c 1 j))) := su_hso (by decide) (by decide)
    have u2 : su (hs c (su (kwJ G (c 1) o j) 12 (o + j) (nI (c 1 j)))) 16 9 (nI (o + j + 1)) = hs c (kwJ G (c 1) o (j + 1)) := by rw [su_hs16o (by decide), kw_s]
    simp (disch := omega) only [gi_nI, tn_nI, hs_1, hs_2, hs_3, hs_4, hs_5, hs_6, hs_7, hs_s, hs_m, hs_h, hs_t, lit_nI, nI_add, nI_mul, nI_eq, nI_leI, nI_ltI, nm_i, bd_s, h1, r8, r9, u1, r9', u2, ↓reduceIte]
    simp
  · simp (disch := omega) only [gi_nI, tn_nI, hs_1, hs_2, hs_3, hs_4, hs_5, hs_6, hs_7, hs_s, hs_m, hs_h, hs_t, lit_nI, nI_add, nI_mul, nI_eq, nI_leI, nI_ltI, nm_i, bd_s, Nat.le_refl, ↓reduceIte]
theorem put_1 {d : G2} {f : Nat → Nat} {G : St} {o : Nat} (h8 : G 16 8 = nI 0) (h9 : G 16 9 = nI o) (ho : o + 5 ≤ 153) (hk : ∀ j, j < 5 → G 12 (o + j) = nI (f j)) : f_X5_passes_a2 (hs d G) = some (hs (swp d 1 (fun _ => True) f 5) (su G 16 9 (nI (o + 5)))) := by
  unfold f_X5_passes_a2
  refine lp_d (S := fun j => (nI j, hs (swp d 1 (fun _ => True) f j) (su G 16 9 (nI (o + j))))) 5 (by rw [swp_0, Nat.add_zero, su_self h9]; rfl) (fun j hj nx => ?_) (fun nx => ?_) (by omega)
  · have h1 : ¬ 5 ≤ j := by omega
    have r8 : hs (swp d 1 (fun _ => True) f j) (su G 16 9 (nI (o + j))) 16 8 = nI 0 := by rw [hs_16 (by omega), su_ne (by omega), h8]
    have r9 : hs (swp d 1 (fun _ => True) f j) (su G 16 9 (nI (o + j))) 16 9 = nI (o + j) := by rw [hs_16 (by omega), su_at]
    have r12 : hs (swp d 1 (fun _ => True) f j) (su G 16 9 (nI (o + j))) 12 (o + j) = nI (f j) := by rw [hs_o (by decide) (by decide), su_ne (by omega), hk j hj]
    have u1 : su (hs (swp d 1 (fun _ => True) f j) (su G 16 9 (nI (o + j)))) 1 j (nI (f j)) = hs (swp d 1 (fun _ => True) f (j + 1)) (su G 16 9 (nI (o + j))) := by rw [su_hs (by decide) (by decide), swp_t trivial]
    have r9' : hs (swp d 1 (fun _ => True) f (j + 1)) (su G 16 9 (nI (o + j))) 16 9 = nI (o + j) := by rw [hs_16 (by omega), su_at]
    have u2 : su (hs (swp d 1 (fun _ => True) f (j + 1)) (su G 16 9 (nI (o + j)))) 16 9 (nI (o + j + 1)) = hs (swp d 1 (fun _ => True) f (j + 1)) (su G 16 9 (nI (o + (j + 1)))) := by rw [su_hs16o (by decide), su_su]; rfl
    simp (disch := omega) only [gi_nI, tn_nI, hs_1, hs_2, hs_3, hs_4, hs_5, hs_6, hs_7, hs_s, hs_m, hs_h, hs_t, lit_nI, nI_add, nI_mul, nI_eq, nI_leI, nI_ltI, nm_i, bd_s, h1, r8, r9, r12, u1, r9', u2, ↓reduceIte]
  · simp (disch := omega) only [gi_nI, tn_nI, hs_1, hs_2, hs_3, hs_4, hs_5, hs_6, hs_7, hs_s, hs_m, hs_h, hs_t, lit_nI, nI_add, nI_mul, nI_eq, nI_leI, nI_ltI, nm_i, bd_s, Nat.le_refl, ↓reduceIte]
theorem keep_2 {c : G2} {G : St} {o : Nat} (h8 : G 16 8 = nI 1) (h9 : G 16 9 = nI o) (ho : o + 5 ≤ 153) : f_X5_passes_a3 (hs c G) = some (hs c (kwJ G (c 2) o 5)) := by
  unfold f_X5_passes_a3
  refine lp_d (S := fun j => (nI j, hs c (kwJ G (c 2) o j))) 5 (by rw [kw_0 h9]; rfl) (fun j hj nx => ?_) (fun nx => ?_) (by omega)
  · have h1 : ¬ 5 ≤ j := by omega
    have r8 : hs c (kwJ G (c 2) o j) 16 8 = nI 1 := by rw [hs_16 (by omega), kw_16 (by decide), h8]
    have r9 : hs c (kwJ G (c 2) o j) 16 9 = nI (o + j) := by rw [hs_16 (by omega), kw_9]
    have r9' : hs c (su (kwJ G (c 2) o j) 12 (o + j) (nI (c 2 j))) 16 9 = nI (o + j) := by rw [hs_16 (by omega), su_ne (by omega), kw_9]
    have u1 : su (hs c (kwJ G (c 2) o j)) 12 (o + j) (nI (c 2 j)) = hs c (su (kwJ G (c 2) o j) 12 (o + j) (nI (c 2 j))) := su_hso (by decide) (by decide)
    have u2 : su (hs c (su (kwJ G (c 2) o j) 12 (o + j) (nI (c 2 j)))) 16 9 (nI (o + j + 1)) = hs c (kwJ G (c 2) o (j + 1)) := by rw [su_hs16o (by decide), kw_s]
    simp (disch := omega) only [gi_nI, tn_nI, hs_1, hs_2, hs_3, hs_4, hs_5, hs_6, hs_7, hs_s, hs_m, hs_h, hs_t, lit_nI, nI_add, nI_mul, nI_eq, nI_leI, nI_ltI, nm_i, bd_s, h1, r8, r9, u1, r9', u2, ↓reduceIte]
    simp
  · simp (disch := omega) only [gi_nI, tn_nI, hs_1, hs_2, hs_3, hs_4, hs_5, hs_6, hs_7, hs_s, hs_m, hs_h, hs_t, lit_nI, nI_add, nI_mul, nI_eq, nI_leI, nI_ltI, nm_i, bd_s, Nat.le_refl, ↓reduceIte]
theorem put_2 {d : G2} {f : Nat → Nat} {G : St} {o : Nat} (h8 : G 16 8 = nI 0) (h9 : G 16 9 = nI o) (ho : o + 5 ≤ 153) (hk : ∀ j, j < 5 → G 12 (o + j) = nI (f j)) : f_X5_passes_a3 (hs d G) = some (hs (swp d 2 (fun _ => True) f 5) (su G 16 9 (nI (o + 5)))) := by
  unfold f_X5_passes_a3
  refine lp_d (S := fun j => (nI j, hs (swp d 2 (fun _ => True) f j) (su G 16 9 (nI (o + j))))) 5 (by rw [swp_0, Nat.add_zero, su_self h9]; rfl) (fun j hj nx => ?_) (fun nx => ?_) (by omega)
  · have h1 : ¬ 5 ≤ j := by omega
    have r8 : hs (swp d 2 (fun _ => True) f j) (su G 16 9 (nI (o + j))) 16 8 = nI 0 := by rw [hs_16 (by omega), su_ne (by omega), h8]
    have r9 : hs (swp d 2 (fun _ => True) f j) (su G 16 9 (nI (o + j))) 16 9 = nI (o + j) := by rw [hs_16 (by omega), su_at]
    have r12 : hs (swp d 2 (fun _ => True) f j) (su G 16 9 (nI (o + j))) 12 (o + j) = nI (f j) := by rw [hs_o (by decide) (by decide), su_ne (by omega), hk j hj]
    have u1 : su (hs (swp d 2 (fun _ => True) f j) (su G 16 9 (nI (o + j)))) 2 j (nI (f j)) = hs (swp d 2 (fun _ => True) f (j + 1)) (su G 16 9 (nI (o + j))) := by rw [su_hs (by decide) (by decide), swp_t trivial]
    have r9' : hs (swp d 2 (fun _ => True) f (j + 1)) (su G 16 9 (nI (o + j))) 16 9 = nI (o + j) := by rw [hs_16 (by omega), su_at]
    have u2 : su (hs (swp d 2 (fun _ => True) f (j + 1)) (su G 16 9 (nI (o + j)))) 16 9 (nI (o + j + 1)) = hs (swp d 2 (fun _ => True) f (j + 1)) (su G 16 9 (nI (o + (j + 1)))) := by rw [su_hs16o (by decide), su_su]; rfl
    simp (disch := omega) only [gi_nI, tn_nI, hs_1, hs_2, hs_3, hs_4, hs_5, hs_6, hs_7, hs_s, hs_m, hs_h, hs_t, lit_nI, nI_add, nI_mul, nI_eq, nI_leI, nI_ltI, nm_i, bd_s, h1, r8, r9, r12, u1, r9', u2, ↓reduceIte]
  · simp (disch := omega) only [gi_nI, tn_nI, hs_1, hs_2, hs_3, hs_4, hs_5, hs_6, hs_7, hs_s, hs_m, hs_h, hs_t, lit_nI, nI_add, nI_mul, nI_eq, nI_leI, nI_ltI, nm_i, bd_s, Nat.le_refl, ↓reduceIte]
theorem keep_3 {c : G2} {G : St} {o : Nat} (h8 : G 16 8 = nI 1) (h9 : G 16 9 = nI o) (ho : o + 5 ≤ 153) : f_X5_passes_a4 (hs c G) = some (hs c (kwJ G (c 3) o 5)) := by
  unfold f_X5_passes_a4
  refine lp_d (S := fun j => (nI j, hs c (kwJ G (c 3) o j))) 5 (by rw [kw_0 h9]; rfl) (fun j hj nx => ?_) (fun nx => ?_) (by omega)
  · have h1 : ¬ 5 ≤ j := by omega
    have r8 : hs c (kwJ G (c 3) o j) 16 8 = nI 1 := by rw [hs_16 (by omega), kw_16 (by decide), h8]
    have r9 : hs c (kwJ G (c 3) o j) 16 9 = nI (o + j) := by rw [hs_16 (by omega), kw_9]
    have r9' : hs c (su (kwJ G (c 3) o j) 12 (o + j) (nI (c 3 j))) 16 9 = nI (o + j) := by rw [hs_16 (by omega), su_ne (by omega), kw_9]
    have u1 : su (hs c (kwJ G (c 3) o j)) 12 (o + j) (nI (c 3 j)) = hs c (su (kwJ G (c 3) o j) 12 (o + j) (nI (c 3 j))) := su_hso (by decide) (by decide)
    have u2 : su (hs c (su (kwJ G (c 3) o j) 12 (o + j) (nI (c 3 j)))) 16 9 (nI (o + j + 1)) = hs c (kwJ G (c 3) o (j + 1)) := by rw [su_hs16o (by decide), kw_s]
    simp (disch := omega) only [gi_nI, tn_nI, hs_1, hs_2, hs_3, hs_4, hs_5, hs_6, hs_7, hs_s, hs_m, hs_h, hs_t, lit_nI, nI_add, nI_mul, nI_eq, nI_leI, nI_ltI, nm_i, bd_s, h1, r8, r9, u1, r9', u2, ↓reduceIte]
    simp
  · simp (disch := omega) only [gi_nI, tn_nI, hs_1, hs_2, hs_3, hs_4, hs_5, hs_6, hs_7, hs_s, hs_m, hs_h, hs_t, lit_nI, nI_add, nI_mul, nI_eq, nI_leI, nI_ltI, nm_i, bd_s, Nat.le_refl, ↓reduceIte]
theorem put_3 {d : G2} {f : Nat → Nat} {G : St} {o : Nat} (h8 : G 16 8 = nI 0) (h9 : G 16 9 = nI o) (ho : o + 5 ≤ 153) (hk : ∀ j, j < 5 → G 12 (o + j) = nI (f j)) : f_X5_passes_a4 (hs d G) = some (hs (swp d 3 (fun _ => True) f 5) (su G 16 9 (nI (o + 5)))) := by
  unfold f_X5_passes_a4
  refine lp_d (S := fun j => (nI j, hs (swp d 3 (fun _ => True) f j) (su G 16 9 (nI (o + j))))) 5 (by rw [swp_0, Nat.add_zero, su_self h9]; rfl) (fun j hj nx => ?_) (fun nx => ?_) (by omega)
  · have h1 : ¬ 5 ≤ j := by omega
    have r8 : hs (swp d 3 (fun _ => True) f j) (su G 16 9 (nI (o + j))) 16 8 = nI 0 := by rw [hs_16 (by omega), su_ne (by omega), h8]
    have r9 : hs (swp d 3 (fun _ => True) f j) (su G 16 9 (nI (o + j))) 16 9 = nI (o + j) := by rw [hs_16 (by omega), su_at]
    have r12 : hs (swp d 3 (fun _ => True) f j) (su G 16 9 (nI (o + j))) 12 (o + j) = nI (f j) := by rw [hs_o (by decide) (by decide), su_ne (by omega), hk j hj]
    have u1 : su (hs (swp d 3 (fun _ => True) f j) (su G 16 9 (nI (o + j)))) 3 j (nI (f j)) = hs (swp d 3 (fun _ => True) f (j + 1)) (su G 16 9 (nI (o + j))) := by rw [su_hs (by decide) (by decide), swp_t trivial]
    have r9' : hs (swp d 3 (fun _ => True) f (j + 1)) (su G 16 9 (nI (o + j))) 16 9 = nI (o + j) := by rw [hs_16 (by omega), su_at]
    have u2 : su (hs (swp d 3 (fun _ => True) f (j + 1)) (su G 16 9 (nI (o + j)))) 16 9 (nI (o + j + 1)) = hs (swp d 3 (fun _ => True) f (j + 1)) (su G 16 9 (nI (o + (j + 1)))) := by rw [su_hs16o (by decide), su_su]; rfl
    simp (disch := omega) only [gi_nI, tn_nI, hs_1, hs_2, hs_3, hs_4, hs_5, hs_6, hs_7, hs_s, hs_m, hs_h, hs_t, lit_nI, nI_add, nI_mul, nI_eq, nI_leI, nI_ltI, nm_i, bd_s, h1, r8, r9, r12, u1, r9', u2, ↓reduceIte]
  · simp (disch := omega) only [gi_nI, tn_nI, hs_1, hs_2, hs_3, hs_4, hs_5, hs_6, hs_7, hs_s, hs_m, hs_h, hs_t, lit_nI, nI_add, nI_mul, nI_eq, nI_leI, nI_ltI, nm_i, bd_s, Nat.le_refl, ↓reduceIte]
theorem keep_4 {c : G2} {G : St} {o : Nat} (h8 : G 16 8 = nI 1) (h9 : G 16 9 = nI o) (ho : o + 8 ≤ 153) : f_X5_passes_a5 (hs c G) = some (hs c (kwJ G (c 4) o 8)) := by
  unfold f_X5_passes_a5
  refine lp_d (S := fun j => (nI j, hs c (kwJ G (c 4) o j))) 8 (by rw [kw_0 h9]; rfl) (fun j hj nx => ?_) (fun nx => ?_) (by omega)
  · have h1 : ¬ 8 ≤ j := by omega
    have r8 : hs c (kwJ G (c 4) o j) 16 8 = nI 1 := by rw [hs_16 (by omega), kw_16 (by decide), h8]
    have r9 : hs c (kwJ G (c 4) o j) 16 9 = nI (o + j) := by rw [hs_16 (by omega), kw_9]
    have r9' : hs c (su (kwJ G (c 4) o j) 12 (o + j) (nI (c 4 j))) 16 9 = nI (o + j) := by rw [hs_16 (by omega), su_ne (by omega), kw_9]
    have u1 : su (hs c (kwJ G (c 4) o j)) 12 (o + j) (nI (c 4 j)) = hs c (su (kwJ G (c 4) o j) 12 (o + j) (nI (c 4 j))) := su_hso (by decide) (by decide)
    have u2 : su (hs c (su (kwJ G (c 4) o j) 12 (o + j) (nI (c 4 j)))) 16 9 (nI (o + j + 1)) = hs c (kwJ G (c 4) o (j + 1)) := by rw [su_hs16o (by decide), kw_s]
    simp (disch := omega) only [gi_nI, tn_nI, hs_1, hs_2, hs_3, hs_4, hs_5, hs_6, hs_7, hs_s, hs_m, hs_h, hs_t, lit_nI, nI_add, nI_mul, nI_eq, nI_leI, nI_ltI, nm_i, bd_s, h1, r8, r9, u1, r9', u2, ↓reduceIte]
    simp
  · simp (disch := omega) only [gi_nI, tn_nI, hs_1, hs_2, hs_3, hs_4, hs_5, hs_6, hs_7, hs_s, hs_m, hs_h, hs_t, lit_nI, nI_add, nI_mul, nI_eq, nI_leI, nI_ltI, nm_i, bd_s, Nat.le_refl, ↓reduceIte]
theorem put_4 {d : G2} {f : Nat → Nat} {G : St} {o : Nat} (h8 : G 16 8 = nI 0) (h9 : G 16 9 = nI o) (ho : o + 8 ≤ 153) (hk : ∀ j, j < 8 → G 12 (o + j) = nI (f j)) : f_X5_passes_a5 (hs d G) = some (hs (swp d 4 (fun _ => True) f 8) (su G 16 9 (nI (o + 8)))) := by
  unfold f_X5_passes_a5
  refine lp_d (S := fun j => (nI j, hs (swp d 4 (fun _ => True) f j) (su G 16 9 (nI (o + j))))) 8 (by rw [swp_0, Nat.add_zero, su_self h9]; rfl) (fun j hj nx => ?_) (fun nx => ?_) (by omega)
  · have h1 : ¬ 8 ≤ j := by omega
    have r8 : hs (swp d 4 (fun _ => True) f j) (su G 16 9 (nI (o + j))) 16 8 = nI 0 := by rw [hs_16 (by omega), su_ne (by omega), h8]
    have r9 : hs (swp d 4 (fun _ => True) f j) (su G 16 9 (nI (o + j))) 16 9 = nI (o + j) := by rw [hs_16 (by omega), su_at]
    have r12 : hs (swp d 4 (fun _ => True) f j) (su G 16 9 (nI (o + j))) 12 (o + j) = nI (f j) := by rw [hs_o (by decide) (by decide), su_ne (by omega), hk j hj]
    have u1 : su (hs (swp d 4 (fun _ => True) f j) (su G 16 9 (nI (o + j)))) 4 j (nI (f j)) = hs (swp d 4 (fun _ => True) f (j + 1)) (su G 16 9 (nI (o + j))) := by rw [su_hs (by decide) (by decide), swp_t trivial]
    have r9' : hs (swp d 4 (fun _ => True) f (j + 1)) (su G 16 9 (nI (o + j))) 16 9 = nI (o + j) := by rw [hs_16 (by omega), su_at]
    have u2 : su (hs (swp d 4 (fun _ => True) f (j + 1)) (su G 16 9 (nI (o + j)))) 16 9 (nI (o + j + 1)) = hs (swp d 4 (fun _ => True) f (j + 1)) (su G 16 9 (nI (o + (j + 1)))) := by rw [su_hs16o (by decide), su_su]; rfl
    simp (disch := omega) only [gi_nI, tn_nI, hs_1, hs_2, hs_3, hs_4, hs_5, hs_6, hs_7, hs_s, hs_m, hs_h, hs_t, lit_nI, nI_add, nI_mul, nI_eq, nI_leI, nI_ltI, nm_i, bd_s, h1, r8, r9, r12, u1, r9', u2, ↓reduceIte]
  · simp (disch := omega) only [gi_nI, tn_nI, hs_1, hs_2, hs_3, hs_4, hs_5, hs_6, hs_7, hs_s, hs_m, hs_h, hs_t, lit_nI, nI_add, nI_mul, nI_eq, nI_leI, nI_ltI, nm_i, bd_s, Nat.le_refl, ↓reduceIte]
theorem keep_5 {c : G2} {G : St} {o : Nat} (h8 : G 16 8 = nI 1) (h9 : G 16 9 = nI o) (ho : o + 8 ≤ 153) : f_X5_passes_a6 (hs c G) = some (hs c (kwJ G (c 5) o 8)) := by
  unfold f_X5_passes_a6
  refine lp_d (S := fun j => (nI j, hs c (kwJ G (c 5) o j))) 8 (by rw [kw_0 h9]; rfl) (fun j hj nx => ?_) (fun nx => ?_) (by omega)
  · have h1 : ¬ 8 ≤ j := by omega
    have r8 : hs c (kwJ G (c 5) o j) 16 8 = nI 1 := by rw [hs_16 (by omega), kw_16 (by decide), h8]
    have r9 : hs c (kwJ G (c 5) o j) 16 9 = nI (o + j) := by rw [hs_16 (by omega), kw_9]
    have r9' : hs c (su (kwJ G (c 5) o j) 12 (o + j) (nI (c 5 j))) 16 9 = nI (o + j) := by rw [hs_16 (by omega), su_ne (by omega), kw_9]
    have u1 : su (hs c (kwJ G (c 5) o j)) 12 (o + j) (nI (c 5 j)) = hs c (su (kwJ G (c 5) o j) 12 (o + j) (nI (c 5 j))) := su_hso (by decide) (by decide)
    have u2 : su (hs c (su (kwJ G (c 5) o j) 12 (o + j) (nI (c 5 j)))) 16 9 (nI (o + j + 1)) = hs c (kwJ G (c 5) o (j + 1)) := by rw [su_hs16o (by decide), kw_s]
    simp (disch := omega) only [gi_nI, tn_nI, hs_1, hs_2, hs_3, hs_4, hs_5, hs_6, hs_7, hs_s, hs_m, hs_h, hs_t, lit_nI, nI_add, nI_mul, nI_eq, nI_leI, nI_ltI, nm_i, bd_s, h1, r8, r9, u1, r9', u2, ↓reduceIte]
    simp
  · simp (disch := omega) only [gi_nI, tn_nI, hs_1, hs_2, hs_3, hs_4, hs_5, hs_6, hs_7, hs_s, hs_m, hs_h, hs_t, lit_nI, nI_add, nI_mul, nI_eq, nI_leI, nI_ltI, nm_i, bd_s, Nat.le_refl, ↓reduceIte]
theorem put_5 {d : G2} {f : Nat → Nat} {G : St} {o : Nat} (h8 : G 16 8 = nI 0) (h9 : G 16 9 = nI o) (ho : o + 8 ≤ 153) (hk : ∀ j, j < 8 → G 12 (o + j) = nI (f j)) : f_X5_passes_a6 (hs d G) = some (hs (swp d 5 (fun _ => True) f 8) (su G 16 9 (nI (o + 8)))) := by
  unfold f_X5_passes_a6
  refine lp_d (S := fun j => (nI j, hs (swp d 5 (fun _ => True) f j) (su G 16 9 (nI (o + j))))) 8 (by rw [swp_0, Nat.add_zero, su_self h9]; rfl) (fun j hj nx => ?_) (fun nx => ?_) (by omega)
  · have h1 : ¬ 8 ≤ j := by omega
    have r8 : hs (swp d 5 (fun _ => True) f j) (su G 16 9 (nI (o + j))) 16 8 = nI 0 := by rw [hs_16 (by omega), su_ne (by omega), h8]
    have r9 : hs (swp d 5 (fun _ => True) f j) (su G 16 9 (nI (o + j))) 16 9 = nI (o + j) := by rw [hs_16 (by omega), su_at]
    have r12 : hs (swp d 5 (fun _ => True) f j) (su G 16 9 (nI (o + j))) 12 (o + j) = nI (f j) := by rw [hs_o (by decide) (by decide), su_ne (by omega), hk j hj]
    have u1 : su (hs (swp d 5 (fun _ => True) f j) (su G 16 9 (nI (o + j)))) 5 j (nI (f j)) = hs (swp d 5 (fun _ => True) f (j + 1)) (su G 16 9 (nI (o + j))) := by rw [su_hs (by decide) (by decide), swp_t trivial]
    have r9' : hs (swp d 5 (fun _ => True) f (j + 1)) (su G 16 9 (nI (o + j))) 16 9 = nI (o + j) := by rw [hs_16 (by omega), su_at]
    have u2 : su (hs (swp d 5 (fun _ => True) f (j + 1)) (su G 16 9 (nI (o + j)))) 16 9 (nI (o + j + 1)) = hs (swp d 5 (fun _ => True) f (j + 1)) (su G 16 9 (nI (o + (j + 1)))) := by rw [su_hs16o (by decide), su_su]; rfl
    simp (disch := omega) only [gi_nI, tn_nI, hs_1, hs_2, hs_3, hs_4, hs_5, hs_6, hs_7, hs_s, hs_m, hs_h, hs_t, lit_nI, nI_add, nI_mul, nI_eq, nI_leI, nI_ltI, nm_i, bd_s, h1, r8, r9, r12, u1, r9', u2, ↓reduceIte]
  · simp (disch := omega) only [gi_nI, tn_nI, hs_1, hs_2, hs_3, hs_4, hs_5, hs_6, hs_7, hs_s, hs_m, hs_h, hs_t, lit_nI, nI_add, nI_mul, nI_eq, nI_leI, nI_ltI, nm_i, bd_s, Nat.le_refl, ↓reduceIte]
theorem keep_6 {c : G2} {G : St} {o : Nat} (h8 : G 16 8 = nI 1) (h9 : G 16 9 = nI o) (ho : o + 8 ≤ 153) : f_X5_passes_a7 (hs c G) = some (hs c (kwJ G (c 6) o 8)) := by
  unfold f_X5_passes_a7
  refine lp_d (S := fun j => (nI j, hs c (kwJ G (c 6) o j))) 8 (by rw [kw_0 h9]; rfl) (fun j hj nx => ?_) (fun nx => ?_) (by omega)
  · have h1 : ¬ 8 ≤ j := by omega
    have r8 : hs c (kwJ G (c 6) o j) 16 8 = nI 1 := by rw [hs_16 (by omega), kw_16 (by decide), h8]
    have r9 : hs c (kwJ G (c 6) o j) 16 9 = nI (o + j) := by rw [hs_16 (by omega), kw_9]
    have r9' : hs c (su (kwJ G (c 6) o j) 12 (o + j) (nI (c 6 j))) 16 9 = nI (o + j) := by rw [hs_16 (by omega), su_ne (by omega), kw_9]
    have u1 : su (hs c (kwJ G (c 6) o j)) 12 (o + j) (nI (c 6 j)) = hs c (su (kwJ G (c 6) o j) 12 (o + j) (nI (c 6 j))) := su_hso (by decide) (by decide)
    have u2 : su (hs c (su (kwJ G (c 6) o j) 12 (o + j) (nI (c 6 j)))) 16 9 (nI (o + j + 1)) = hs c (kwJ G (c 6) o (j + 1)) := by rw [su_hs16o (by decide), kw_s]
    simp (disch := omega) only [gi_nI, tn_nI, hs_1, hs_2, hs_3, hs_4, hs_5, hs_6, hs_7, hs_s, hs_m, hs_h, hs_t, lit_nI, nI_add, nI_mul, nI_eq, nI_leI, nI_ltI, nm_i, bd_s, h1, r8, r9, u1, r9', u2, ↓reduceIte]
    simp
  · simp (disch := omega) only [gi_nI, tn_nI, hs_1, hs_2, hs_3, hs_4, hs_5, hs_6, hs_7, hs_s, hs_m, hs_h, hs_t, lit_nI, nI_add, nI_mul, nI_eq, nI_leI, nI_ltI, nm_i, bd_s, Nat.le_refl, ↓reduceIte]
theorem put_6 {d : G2} {f : Nat → Nat} {G : St} {o : Nat} (h8 : G 16 8 = nI 0) (h9 : G 16 9 = nI o) (ho : o + 8 ≤ 153) (hk : ∀ j, j < 8 → G 12 (o + j) = nI (f j)) : f_X5_passes_a7 (hs d G) = some (hs (swp d 6 (fun _ => True) f 8) (su G 16 9 (nI (o + 8)))) := by
  unfold f_X5_passes_a7
  refine lp_d (S := fun j => (nI j, hs (swp d 6 (fun _ => True) f j) (su G 16 9 (nI (o + j))))) 8 (by rw [swp_0, Nat.add_zero, su_self h9]; rfl) (fun j hj nx => ?_) (fun nx => ?_) (by omega)
  · have h1 : ¬ 8 ≤ j := by omega
    have r8 : hs (swp d 6 (fun _ => True) f j) (su G 16 9 (nI (o + j))) 16 8 = nI 0 := by rw [hs_16 (by omega), su_ne (by omega), h8]
    have r9 : hs (swp d 6 (fun _ => True) f j) (su G 16 9 (nI (o + j))) 16 9 = nI (o + j) := by rw [hs_16 (by omega), su_at]
    have r12 : hs (swp d 6 (fun _ => True) f j) (su G 16 9 (nI (o + j))) 12 (o + j) = nI (f j) := by rw [hs_o (by decide) (by decide), su_ne (by omega), hk j hj]
    have u1 : su (hs (swp d 6 (fun _ => True) f j) (su G 16 9 (nI (o + j)))) 6 j (nI (f j)) = hs (swp d 6 (fun _ => True) f (j + 1)) (su G 16 9 (nI (o + j))) := by rw [su_hs (by decide) (by decide), swp_t trivial]
    have r9' : hs (swp d 6 (fun _ => True) f (j + 1)) (su G 16 9 (nI (o + j))) 16 9 = nI (o + j) := by rw [hs_16 (by omega), su_at]
    have u2 : su (hs (swp d 6 (fun _ => True) f (j + 1)) (su G 16 9 (nI (o + j)))) 16 9 (nI (o + j + 1)) = hs (swp d 6 (fun _ => True) f (j + 1)) (su G 16 9 (nI (o + (j + 1)))) := by rw [su_hs16o (by decide), su_su]; rfl
    simp (disch := omega) only [gi_nI, tn_nI, hs_1, hs_2, hs_3, hs_4, hs_5, hs_6, hs_7, hs_s, hs_m, hs_h, hs_t, lit_nI, nI_add, nI_mul, nI_eq, nI_leI, nI_ltI, nm_i, bd_s, h1, r8, r9, r12, u1, r9', u2, ↓reduceIte]
  · simp (disch := omega) only [gi_nI, tn_nI, hs_1, hs_2, hs_3, hs_4, hs_5, hs_6, hs_7, hs_s, hs_m, hs_h, hs_t, lit_nI, nI_add, nI_mul, nI_eq, nI_leI, nI_ltI, nm_i, bd_s, Nat.le_refl, ↓reduceIte]
theorem keep_7 {c : G2} {G : St} {o : Nat} (h8 : G 16 8 = nI 1) (h9 : G 16 9 = nI o) (ho : o + 8 ≤ 153) : f_X5_passes_a8 (hs c G) = some (hs c (kwJ G (c 7) o 8)) := by
  unfold f_X5_passes_a8
  refine lp_d (S := fun j => (nI j, hs c (kwJ G (c 7) o j))) 8 (by rw [kw_0 h9]; rfl) (fun j hj nx => ?_) (fun nx => ?_) (by omega)
  · have h1 : ¬ 8 ≤ j := by omega
    have r8 : hs c (kwJ G (c 7) o j) 16 8 = nI 1 := by rw [hs_16 (by omega), kw_16 (by decide), h8]
    have r9 : hs c (kwJ G (c 7) o j) 16 9 = nI (o + j) := by rw [hs_16 (by omega), kw_9]
    have r9' : hs c (su (kwJ G (c 7) o j) 12 (o + j) (nI (c 7 j))) 16 9 = nI (o + j) := by rw [hs_16 (by omega), su_ne (by omega), kw_9]
    have u1 : su (hs c (kwJ G (c 7) o j)) 12 (o + j) (nI (c 7 j)) = hs c (su (kwJ G (c 7) o j) 12 (o + j) (nI (c 7 j))) := su_hso (by decide) (by decide)
    have u2 : su (hs c (su (kwJ G (c 7) o j) 12 (o + j) (nI (c 7 j)))) 16 9 (nI (o + j + 1)) = hs c (kwJ G (c 7) o (j + 1)) := by rw [su_hs16o (by decide), kw_s]
    simp (disch := omega) only [gi_nI, tn_nI, hs_1, hs_2, hs_3, hs_4, hs_5, hs_6, hs_7, hs_s, hs_m, hs_h, hs_t, lit_nI, nI_add, nI_mul, nI_eq, nI_leI, nI_ltI, nm_i, bd_s, h1, r8, r9, u1, r9', u2, ↓reduceIte]
    simp
  · simp (disch := omega) only [gi_nI, tn_nI, hs_1, hs_2, hs_3, hs_4, hs_5, hs_6, hs_7, hs_s, hs_m, hs_h, hs_t, lit_nI, nI_add, nI_mul, nI_eq, nI_leI, nI_ltI, nm_i, bd_s, Nat.le_refl, ↓reduceIte]
theorem put_7 {d : G2} {f : Nat → Nat} {G : St} {o : Nat} (h8 : G 16 8 = nI 0) (h9 : G 16 9 = nI o) (ho : o + 8 ≤ 153) (hk : ∀ j, j < 8 → G 12 (o + j) = nI (f j)) : f_X5_passes_a8 (hs d G) = some (hs (swp d 7 (fun _ => True) f 8) (su G 16 9 (nI (o + 8)))) := by
  unfold f_X5_passes_a8
  refine lp_d (S := fun j => (nI j, hs (swp d 7 (fun _ => True) f j) (su G 16 9 (nI (o + j))))) 8 (by rw [swp_0, Nat.add_zero, su_self h9]; rfl) (fun j hj nx => ?_) (fun nx => ?_) (by omega)
  · have h1 : ¬ 8 ≤ j := by omega
    have r8 : hs (swp d 7 (fun _ => True) f j) (su G 16 9 (nI (o + j))) 16 8 = nI 0 := by rw [hs_16 (by omega), su_ne (by omega), h8]
    have r9 : hs (swp d 7 (fun _ => True) f j) (su G 16 9 (nI (o + j))) 16 9 = nI (o + j) := by rw [hs_16 (by omega), su_at]
    have r12 : hs (swp d 7 (fun _ => True) f j) (su G 16 9 (nI (o + j))) 12 (o + j) = nI (f j) := by rw [hs_o (by decide) (by decide), su_ne (by omega), hk j hj]
    have u1 : su (hs (swp d 7 (fun _ => True) f j) (su G 16 9 (nI (o + j)))) 7 j (nI (f j)) = hs (swp d 7 (fun _ => True) f (j + 1)) (su G 16 9 (nI (o + j))) := by rw [su_hs (by decide) (by decide), swp_t trivial]
    have r9' : hs (swp d 7 (fun _ => True) f (j + 1)) (su G 16 9 (nI (o + j))) 16 9 = nI (o + j) := by rw [hs_16 (by omega), su_at]
    have u2 : su (hs (swp d 7 (fun _ => True) f (j + 1)) (su G 16 9 (nI (o + j)))) 16 9 (nI (o + j + 1)) = hs (swp d 7 (fun _ => True) f (j + 1)) (su G 16 9 (nI (o + (j + 1)))) := by rw [su_hs16o (by decide), su_su]; rfl
    simp (disch := omega) only [gi_nI, tn_nI, hs_1, hs_2, hs_3, hs_4, hs_5, hs_6, hs_7, hs_s, hs_m, hs_h, hs_t, lit_nI, nI_add, nI_mul, nI_eq, nI_leI, nI_ltI, nm_i, bd_s, h1, r8, r9, r12, u1, r9', u2, ↓reduceIte]
  · simp (disch := omega) only [gi_nI, tn_nI, hs_1, hs_2, hs_3, hs_4, hs_5, hs_6, hs_7, hs_s, hs_m, hs_h, hs_t, lit_nI, nI_add, nI_mul, nI_eq, nI_leI, nI_ltI, nm_i, bd_s, Nat.le_refl, ↓reduceIte]
