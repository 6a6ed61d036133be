/-! A TIDE and many, A STORM: the reference, and both -/
theorem X5_goesTide {c : G2} {G : St} (hI : Iv c) (ht : c 16 3 < 9999) : f_X5_goesTide (hs c G) = some (hs (tid c) G) := by
  have hN := hI.2.2.1
  have hS := hI.2.1
  unfold f_X5_goesTide
  simp (disch := omega) only [gi_nI, tn_nI, hs_1, hs_2, hs_3, hs_4, hs_5, hs_6, hs_7, hs_s, hs_m, hs_h, hs_t, lit_nI, nI_add, nI_mul, nI_eq, nI_leI, nI_ltI, nm_i, bd_s, su_hs16, ↓reduceIte]
  refine lp_d (S := fun j => (nI j, hs (td1 c j) G)) (c 16 1) (by unfold td1; rw [swp_0]) (fun j hj nx => ?_) (fun nx => ?_) (by omega)
  · have hJ : Iv (td1 c j) := Iv_td1 hI ht
    have h1 : ¬ c 16 1 ≤ j := by omega
    have o1 : td1 c j 16 1 = c 16 1 := td1_o (by decide) (by decide)
    have o7 : td1 c j 7 j = c 7 j := td1_o (by decide) (by omega)
    have o6 : td1 c j 6 j = c 6 j := td1_6 (Nat.le_refl j)
    have o4 : td1 c j 4 j = c 4 j := td1_o (by decide) (by omega)
    have o3 : td1 c j 3 (c 7 j) = c 3 (c 7 j) := td1_o (by decide) (by omega)
    have a7 := hI.2.2.2.2 j hj
    have e2 := X5_moreSins (G := G) hJ (show j < 8 by omega)
    have e3 : mor (td1 c j) j = mor c j := by unfold mor; rw [o4]
    rw [e3] at e2
    have b6 := hI.1 6 j
    have b3 := hI.1 3 (c 7 j)
    have bm := mor_le (c := c) (m := j)
    have k1 := X5_held (v := c 6 j + mor c j) (b := 9) (by omega) (by omega)
    rw [nI0'] at k1
    simp (disch := omega) only [gi_nI, tn_nI, hs_1, hs_2, hs_3, hs_4, hs_5, hs_6, hs_7, hs_s, hs_m, hs_h, hs_t, lit_nI, nI_add, nI_mul, nI_eq, nI_leI, nI_ltI, nm_i, bd_s, o1, o7, o6, o3, h1, e2, k1, su_hs, ↓reduceIte]
    by_cases h3 : c 3 (c 7 j) = 0
    · have st := swp_f (c := gu c 16 3 (c 16 3 + 1)) (a := 6) (P := fun m => c 3 (c 7 m) ≠ 0) (f := fun m => min 9 (c 6 m + mor c m)) (j := j) (fun z => z h3)
      have h4 : c 3 (c 7 j) ≤ 0 := by omega
      simp only [h4, ↓reduceIte]
      unfold td1
      rw [← st]
    · have st := swp_t (c := gu c 16 3 (c 16 3 + 1)) (a := 6) (P := fun m => c 3 (c 7 m) ≠ 0) (f := fun m => min 9 (c 6 m + mor c m)) (j := j) h3
      have h4 : ¬ c 3 (c 7 j) ≤ 0 := by omega
      simp only [h4, ↓reduceIte]
      unfold td1
      rw [← st]
  · have o1 : td1 c (c 16 1) 16 1 = c 16 1 := td1_o (by decide) (by decide)
    simp (disch := omega) only [gi_nI, tn_nI, hs_1, hs_2, hs_3, hs_4, hs_5, hs_6, hs_7, hs_s, hs_m, hs_h, hs_t, lit_nI, nI_add, nI_mul, nI_eq, nI_leI, nI_ltI, nm_i, bd_s, o1, Nat.le_refl, ↓reduceIte]
    refine lp_d (S := fun j => (nI j, hs (td2 c j) G)) (c 16 0) (by unfold td2; rw [swp_0]) (fun j hj nx => ?_) (fun nx => ?_) (by omega)
    · have hJ : Iv (td2 c j) := Iv_td2 hI ht
      have h1 : ¬ c 16 0 ≤ j := by omega
      have o0 : td2 c j 16 0 = c 16 0 := by rw [td2_o (by decide), td1_o (by decide) (by decide)]
      have o3 : td2 c j 3 j = c 3 j := td2_3 (Nat.le_refl j)
      have b3 := hI.1 3 j
      simp (disch := omega) only [gi_nI, tn_nI, hs_1, hs_2, hs_3, hs_4, hs_5, hs_6, hs_7, hs_s, hs_m, hs_h, hs_t, lit_nI, nI_add, nI_mul, nI_eq, nI_leI, nI_ltI, nm_i, bd_s, o0, o3, h1, ↓reduceIte]
      by_cases h3 : c 3 j = 0
      · have st := swp_f (c := td1 c (c 16 1)) (a := 3) (P := fun s => c 3 s ≠ 0) (f := fun s => c 3 s - 1) (j := j) (fun z => z h3)
        have h4 : c 3 j ≤ 0 := by omega
        have e0 : nI (c 3 j) - nI 0 = nI (td2 c j 3 j) := by rw [nI_sub (by omega), o3]; rfl
        simp (disch := omega) only [h4, ↓reduceIte, e0, su_hs, gu_same]
        unfold td2
        rw [← st]
      · have st := swp_t (c := td1 c (c 16 1)) (a := 3) (P := fun s => c 3 s ≠ 0) (f := fun s => c 3 s - 1) (j := j) h3
        have h4 : ¬ c 3 j ≤ 0 := by omega
        simp (disch := omega) only [h4, ↓reduceIte, nI_sub, su_hs]
        unfold td2
        rw [← st]
    · have o0 : td2 c (c 16 0) 16 0 = c 16 0 := by rw [td2_o (by decide), td1_o (by decide) (by decide)]
      simp (disch := omega) only [gi_nI, tn_nI, hs_1, hs_2, hs_3, hs_4, hs_5, hs_6, hs_7, hs_s, hs_m, hs_h, hs_t, lit_nI, nI_add, nI_mul, nI_eq, nI_leI, nI_ltI, nm_i, bd_s, o0, Nat.le_refl, ↓reduceIte]
      rfl
theorem tid_t {c : G2} : tid c 16 3 = c 16 3 + 1 := by
  rw [tid_e, td2_o (by decide)]
  unfold td1
  rw [swp_o (by decide), gu_s]
theorem Iv_tid {c : G2} (hI : Iv c) (ht : c 16 3 < 9999) : Iv (tid c) := Iv_td2 hI ht
theorem tds_t {c : G2} : ∀ n, tds c n 16 3 = c 16 3 + n
  | 0 => rfl
  | n + 1 => by simp only [tds]; rw [tid_t, tds_t n]; omega
theorem Iv_tds {c : G2} (hI : Iv c) : ∀ n, c 16 3 + n ≤ 9999 → Iv (tds c n)
  | 0, _ => hI
  | n + 1, h => Iv_tid (Iv_tds hI n (by omega)) (by rw [tds_t]; omega)
theorem X0_passTides {c : G2} {G : St} {n : Nat} (hI : Iv c) (hn : n ≤ 900) (ht : c 16 3 + n ≤ 9999) : f_X0_passTides (hs c G) (nI n) = some (hs (tds c n) G) := by
  unfold f_X0_passTides
  refine lp_d (S := fun j => (nI j, hs (tds c j) G)) n rfl (fun j hj nx => ?_) (fun nx => ?_) (by omega)
  · have h1 : ¬ n ≤ j := by omega
    have e := X0_passTide (G := G) (Iv_tds hI j (by omega)) (by rw [tds_t]; omega)
    simp (disch := omega) only [gi_nI, tn_nI, hs_1, hs_2, hs_3, hs_4, hs_5, hs_6, hs_7, hs_s, hs_m, hs_h, hs_t, lit_nI, nI_add, nI_mul, nI_eq, nI_leI, nI_ltI, nm_i, bd_s, h1, e, ↓reduceIte]
    rfl
  · simp (disch := omega) only [gi_nI, tn_nI, hs_1, hs_2, hs_3, hs_4, hs_5, hs_6, hs_7, hs_s, hs_m, hs_h, hs_t, lit_nI, nI_add, nI_mul, nI_eq, nI_leI, nI_ltI, nm_i, bd_s, Nat.le_refl, ↓reduceIte]
theorem X5_goes {c : G2} {G : St} {n : Nat} (hI : Iv c) (hn : n ≤ 900) (ht : c 16 3 + n ≤ 9999) : f_X5_goes (hs c G) (nI n) = some (hs (tds c n) G) := by
  unfold f_X5_goes
  refine lp_d (S := fun j => (nI j, hs (tds c j) G)) n rfl (fun j hj nx => ?_) (fun nx => ?_) (by omega)
  · have h1 : ¬ n ≤ j := by omega
    have e := X5_goesTide (G := G) (Iv_tds hI j (by omega)) (by rw [tds_t]; omega)
    simp (disch := omega) only [gi_nI, tn_nI, hs_1, hs_2, hs_3, hs_4, hs_5, hs_6, hs_7, hs_s, hs_m, hs_h, hs_t, lit_nI, nI_add, nI_mul, nI_eq, nI_leI, nI_ltI, nm_i, bd_s, h1, e, ↓reduceIte]
    rfl
  · simp (disch := omega) only [gi_nI, tn_nI, hs_1, hs_2, hs_3, hs_4, hs_5, hs_6, hs_7, hs_s, hs_m, hs_h, hs_t, lit_nI, nI_add, nI_mul, nI_eq, nI_leI, nI_ltI, nm_i, bd_s, Nat.le_refl, ↓reduceIte]
