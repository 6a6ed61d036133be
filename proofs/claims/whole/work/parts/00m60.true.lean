/-! THE LAW IS TRUE -/
theorem R_0 : R z0 z0 z0 z0 z0 z0 z0 z0 := by
  have e : z0 = hs (fun _ _ => 0) z0 := by
    funext i k
    unfold hs
    by_cases h : 1 ≤ i ∧ i ≤ 7
    · rw [if_pos h]; rfl
    · rw [if_neg h]
      by_cases h2 : i = 16
      · rw [if_pos h2]
        by_cases h3 : k < 4
        · simp only [h3, ↓reduceIte]; rfl
        · simp only [h3, ↓reduceIte]
      · rw [if_neg h2]
  have hG : Gd (fun _ _ => 0) := ⟨⟨fun _ _ => Nat.zero_le _, Nat.zero_le _, Nat.zero_le _, fun _ => Nat.zero_le _, fun m hm => absurd hm (Nat.not_lt_zero _)⟩, fun _ _ _ => rfl, fun _ h => absurd rfl h, Nat.zero_le _, fun _ => Nat.zero_le _⟩
  exact ⟨fun _ _ => 0, fun _ _ => 0, fun _ _ => 0, z0, z0, z0, z0, e, e, e, e, hG, hG.2.1, hG, rfl, rfl, rfl, ⟨0, Nat.zero_le _, rfl⟩, fun _ => ⟨0, Nat.zero_le _, rfl⟩, rfl, rfl, ⟨0, Nat.zero_le _, rfl⟩, rfl, Or.inl rfl⟩
theorem lge {x : Int64} : lg_cmp x x = nI 0 := (lg_cmp_eq x x).mpr rfl
theorem l5 : ∀ L, L < 5 → nI L - nI 5 < nI 0 := by decide +kernel
theorem law_true {xs : Nat → Int32} {L : Nat} (hL : L ≤ 2560) : f_law xs L = some 1 := by
  unfold f_law
  have main : ∀ x : Option Int32, (∃ r, x = some r ∧ r = nI 1) → x = some 1 := by
    rintro x ⟨r, rfl, rfl⟩
    rfl
  apply main
  refine lp_r (fun j s => ∃ i n t k g w z q M, i = 5 * j ∧ s = (nI i, n, t, k, g, w, z, q, M) ∧ R n t k g w z q M) _ (L / 5) ⟨0, z0, z0, z0, z0, z0, z0, z0, z0, rfl, rfl, R_0⟩ (fun j hj s hs1 => Or.inl ?_) (fun s hs1 => ?_) (by omega)
  · obtain ⟨i, n, t, k, g, w, z, q, M, hi, rfl, hR⟩ := hs1
    have hi5 : i + 5 ≤ L := by omega
    have c0 : ¬ (Int32.ofNat L - nI 5 < nI i) := by
      show ¬ (nI L - nI 5 < nI i)
      rw [nI_sub (by omega), nI_ltI (by omega) (by omega)]
      omega
    by_cases a0 : xs i &&& nI 63 = nI 0
    · obtain ⟨r, g2, q2, M2, h4, h5, hR2⟩ := r_letter hR (xs (i + 1))
      refine ⟨_, ⟨i + 5, n, t, k, g2, w, z, q2, M2, by omega, rfl, hR2⟩, fun nx => ?_⟩
      simp (disch := omega) only [lit_nI, nm_j, bd_j, gi_nI, tn_nI, nI_add, c0, eq_true a0, h4, h5, lge, ↓reduceIte]
    by_cases a1 : xs i &&& nI 63 = nI 1
    · obtain ⟨r, n2, t2, g2, M2, h4, h5, hR2⟩ := r_harbour hR 
      refine ⟨_, ⟨i + 5, n2, t2, k, g2, w, z, q, M2, by omega, rfl, hR2⟩, fun nx => ?_⟩
      simp (disch := omega) only [lit_nI, nm_j, bd_j, gi_nI, tn_nI, nI_add, c0, a0, eq_true a1, h4, h5, lge, ↓reduceIte]
    by_cases a2 : xs i &&& nI 63 = nI 2
    · obtain ⟨r, q2, M2, h4, h5, hR2⟩ := r_ship hR (xs (i + 1)) (xs (i + 2))
      refine ⟨_, ⟨i + 5, n, t, k, g, w, z, q2, M2, by omega, rfl, hR2⟩, fun nx => ?_⟩
      simp (disch := omega) only [lit_nI, nm_j, bd_j, gi_nI, tn_nI, nI_add, c0, a0, a1, eq_true a2, h4, h5, lge, ↓reduceIte]
    by_cases a3 : xs i &&& nI 63 = nI 3
    · obtain ⟨r, q2, M2, h4, h5, hR2⟩ := r_man hR (xs (i + 1)) (xs (i + 2))
      refine ⟨_, ⟨i + 5, n, t, k, g, w, z, q2, M2, by omega, rfl, hR2⟩, fun nx => ?_⟩
      simp (disch := omega) only [lit_nI, nm_j, bd_j, gi_nI, tn_nI, nI_add, c0, a0, a1, a2, eq_true a3, h4, h5, lge, ↓reduceIte]
    by_cases a4 : xs i &&& nI 63 = nI 4
    · obtain ⟨r, n2, q2, M2, h4, h5, hR2⟩ := r_tells hR (xs (i + 1))
      refine ⟨_, ⟨i + 5, n2, t, k, g, w, z, q2, M2, by omega, rfl, hR2⟩, fun nx => ?_⟩
      simp (disch := omega) only [lit_nI, nm_j, bd_j, gi_nI, tn_nI, nI_add, c0, a0, a1, a2, a3, eq_true a4, h4, h5, lge, ↓reduceIte]
    by_cases a5 : xs i &&& nI 63 = nI 5
    · obtain ⟨r, n2, q2, M2, h4, h5, hR2⟩ := r_boards hR (xs (i + 1)) (xs (i + 2))
      refine ⟨_, ⟨i + 5, n2, t, k, g, w, z, q2, M2, by omega, rfl, hR2⟩, fun nx => ?_⟩
      simp (disch := omega) only [lit_nI, nm_j, bd_j, gi_nI, tn_nI, nI_add, c0, a0, a1, a2, a3, a4, eq_true a5, h4, h5, lge, ↓reduceIte]
    by_cases a6 : xs i &&& nI 63 = nI 6
    · obtain ⟨r, n2, q2, M2, h4, h5, hR2⟩ := r_sins hR (xs (i + 1)) (xs (i + 2))
      refine ⟨_, ⟨i + 5, n2, t, k, g, w, z, q2, M2, by omega, rfl, hR2⟩, fun nx => ?_⟩
      simp (disch := omega) only [lit_nI, nm_j, bd_j, gi_nI, tn_nI, nI_add, c0, a0, a1, a2, a3, a4, a5, eq_true a6, h4, h5, lge, ↓reduceIte]
    by_cases a7 : xs i &&& nI 63 = nI 7
    · obtain ⟨r, n2, q2, M2, h4, h5, hR2⟩ := r_loads hR (xs (i + 1)) (xs (i + 2))
      refine ⟨_, ⟨i + 5, n2, t, k, g, w, z, q2, M2, by omega, rfl, hR2⟩, fun nx => ?_⟩
      simp (disch := omega) only [lit_nI, nm_j, bd_j, gi_nI, tn_nI, nI_add, c0, a0, a1, a2, a3, a4, a5, a6, eq_true a7, h4, h5, lge, ↓reduceIte]
    by_cases a8 : xs i &&& nI 63 = nI 8
    · obtain ⟨r, n2, q2, M2, h4, h5, hR2⟩ := r_turn hR (xs (i + 1)) (xs (i + 2)) (xs (i + 3))
      refine ⟨_, ⟨i + 5, n2, t, k, g, w, z, q2, M2, by omega, rfl, hR2⟩, fun nx => ?_⟩
      simp (disch := omega) only [lit_nI, nm_j, bd_j, gi_nI, tn_nI, nI_add, c0, a0, a1, a2, a3, a4, a5, a6, a7, eq_true a8, h4, h5, lge, ↓reduceIte]
    by_cases a9 : xs i &&& nI 63 = nI 9
    · obtain ⟨r, n2, q2, M2, h4, h5, hR2⟩ := r_tides hR (xs (i + 1))
      refine ⟨_, ⟨i + 5, n2, t, k, g, w, z, q2, M2, by omega, rfl, hR2⟩, fun nx => ?_⟩
      simp (disch := omega) only [lit_nI, nm_j, bd_j, gi_nI, tn_nI, nI_add, c0, a0, a1, a2, a3, a4, a5, a6, a7, a8, eq_true a9, h4, h5, lge, ↓reduceIte]
    by_cases a10 : xs i &&& nI 63 = nI 10
    · obtain ⟨r, t2, q2, M2, h4, h5, hR2⟩ := r_shipThen hR (xs (i + 1)) (xs (i + 2)) (xs (i + 3))
      refine ⟨_, ⟨i + 5, n, t2, k, g, w, z, q2, M2, by omega, rfl, hR2⟩, fun nx => ?_⟩
      simp (disch := omega) only [lit_nI, nm_j, bd_j, gi_nI, tn_nI, nI_add, c0, a0, a1, a2, a3, a4, a5, a6, a7, a8, a9, eq_true a10, h4, h5, lge, ↓reduceIte]
    by_cases a11 : xs i &&& nI 63 = nI 11
    · obtain ⟨r, t2, q2, M2, h4, h5, hR2⟩ := r_sinsThen hR (xs (i + 1)) (xs (i + 2))
      refine ⟨_, ⟨i + 5, n, t2, k, g, w, z, q2, M2, by omega, rfl, hR2⟩, fun nx => ?_⟩
      simp (disch := omega) only [lit_nI, nm_j, bd_j, gi_nI, tn_nI, nI_add, c0, a0, a1, a2, a3, a4, a5, a6, a7, a8, a9, a10, eq_true a11, h4, h5, lge, ↓reduceIte]
    by_cases a12 : xs i &&& nI 63 = nI 12
    · obtain ⟨r, h4, h5⟩ := r_fixture hR 
      refine ⟨_, ⟨i + 5, n, t, k, g, w, z, q, M, by omega, rfl, hR⟩, fun nx => ?_⟩
      simp (disch := omega) only [lit_nI, nm_j, bd_j, gi_nI, tn_nI, nI_add, c0, a0, a1, a2, a3, a4, a5, a6, a7, a8, a9, a10, a11, eq_true a12, h4, h5, lge, ↓reduceIte]
    by_cases a13 : xs i &&& nI 63 = nI 13
    · obtain ⟨r, n2, q2, M2, h4, h5, hR2⟩ := r_fewest hR (xs (i + 1)) (xs (i + 2))
      refine ⟨_, ⟨i + 5, n2, t, k, g, w, z, q2, M2, by omega, rfl, hR2⟩, fun nx => ?_⟩
      simp (disch := omega) only [lit_nI, nm_j, bd_j, gi_nI, tn_nI, nI_add, c0, a0, a1, a2, a3, a4, a5, a6, a7, a8, a9, a10, a11, a12, eq_true a13, h4, h5, lge, ↓reduceIte]
    by_cases a14 : xs i &&& nI 63 = nI 14
    · obtain ⟨r, t2, q2, M2, h4, h5, hR2⟩ := r_when hR (xs (i + 1)) (xs (i + 2))
      refine ⟨_, ⟨i + 5, n, t2, k, g, w, z, q2, M2, by omega, rfl, hR2⟩, fun nx => ?_⟩
      simp (disch := omega) only [lit_nI, nm_j, bd_j, gi_nI, tn_nI, nI_add, c0, a0, a1, a2, a3, a4, a5, a6, a7, a8, a9, a10, a11, a12, a13, eq_true a14, h4, h5, lge, ↓reduceIte]
    by_cases a15 : xs i &&& nI 63 = nI 15
    · obtain ⟨r, n2, M2, h4, h5, hR2⟩ := r_cheapest hR 
      refine ⟨_, ⟨i + 5, n2, t, k, g, w, z, q, M2, by omega, rfl, hR2⟩, fun nx => ?_⟩
      simp (disch := omega) only [lit_nI, nm_j, bd_j, gi_nI, tn_nI, nI_add, c0, a0, a1, a2, a3, a4, a5, a6, a7, a8, a9, a10, a11, a12, a13, a14, eq_true a15, h4, h5, lge, ↓reduceIte]
    by_cases a16 : xs i &&& nI 63 = nI 16
    · obtain ⟨r, t2, q2, M2, h4, h5, hR2⟩ := r_berth hR (xs (i + 1))
      refine ⟨_, ⟨i + 5, n, t2, k, g, w, z, q2, M2, by omega, rfl, hR2⟩, fun nx => ?_⟩
      simp (disch := omega) only [lit_nI, nm_j, bd_j, gi_nI, tn_nI, nI_add, c0, a0, a1, a2, a3, a4, a5, a6, a7, a8, a9, a10, a11, a12, a13, a14, a15, eq_true a16, h4, h5, lge, ↓reduceIte]
    by_cases a17 : xs i &&& nI 63 = nI 17
    · obtain ⟨r, h4, h5⟩ := r_rise hR 
      refine ⟨_, ⟨i + 5, n, t, k, g, w, z, q, M, by omega, rfl, hR⟩, fun nx => ?_⟩
      simp (disch := omega) only [lit_nI, nm_j, bd_j, gi_nI, tn_nI, nI_add, c0, a0, a1, a2, a3, a4, a5, a6, a7, a8, a9, a10, a11, a12, a13, a14, a15, a16, eq_true a17, h4, h5, lge, ↓reduceIte]
    by_cases a18 : xs i &&& nI 63 = nI 18
    · obtain ⟨r, t2, M2, h4, h5, hR2⟩ := r_deal hR 
      refine ⟨_, ⟨i + 5, n, t2, k, g, w, z, q, M2, by omega, rfl, hR2⟩, fun nx => ?_⟩
      simp (disch := omega) only [lit_nI, nm_j, bd_j, gi_nI, tn_nI, nI_add, c0, a0, a1, a2, a3, a4, a5, a6, a7, a8, a9, a10, a11, a12, a13, a14, a15, a16, a17, eq_true a18, h4, h5, lge, ↓reduceIte]
    by_cases a19 : xs i &&& nI 63 = nI 19
    · obtain ⟨r, h4, h5⟩ := r_hush hR 
      refine ⟨_, ⟨i + 5, n, t, k, g, w, z, q, M, by omega, rfl, hR⟩, fun nx => ?_⟩
      simp (disch := omega) only [lit_nI, nm_j, bd_j, gi_nI, tn_nI, nI_add, c0, a0, a1, a2, a3, a4, a5, a6, a7, a8, a9, a10, a11, a12, a13, a14, a15, a16, a17, a18, eq_true a19, h4, h5, lge, ↓reduceIte]
    by_cases a20 : xs i &&& nI 63 = nI 20
    · obtain ⟨r, t2, q2, M2, h4, h5, hR2⟩ := r_loudest hR (xs (i + 1))
      refine ⟨_, ⟨i + 5, n, t2, k, g, w, z, q2, M2, by omega, rfl, hR2⟩, fun nx => ?_⟩
      simp (disch := omega) only [lit_nI, nm_j, bd_j, gi_nI, tn_nI, nI_add, c0, a0, a1, a2, a3, a4, a5, a6, a7, a8, a9, a10, a11, a12, a13, a14, a15, a16, a17, a18, a19, eq_true a20, h4, h5, lge, ↓reduceIte]
    by_cases a21 : xs i &&& nI 63 = nI 21
    · obtain ⟨r, t2, q2, M2, h4, h5, hR2⟩ := r_spree hR (xs (i + 1))
      refine ⟨_, ⟨i + 5, n, t2, k, g, w, z, q2, M2, by omega, rfl, hR2⟩, fun nx => ?_⟩
      simp (disch := omega) only [lit_nI, nm_j, bd_j, gi_nI, tn_nI, nI_add, c0, a0, a1, a2, a3, a4, a5, a6, a7, a8, a9, a10, a11, a12, a13, a14, a15, a16, a17, a18, a19, a20, eq_true a21, h4, h5, lge, ↓reduceIte]
    by_cases a22 : xs i &&& nI 63 = nI 22
    · obtain ⟨r, t2, q2, M2, h4, h5, hR2⟩ := r_keep hR (xs (i + 1))
      refine ⟨_, ⟨i + 5, n, t2, k, g, w, z, q2, M2, by omega, rfl, hR2⟩, fun nx => ?_⟩
      simp (disch := omega) only [lit_nI, nm_j, bd_j, gi_nI, tn_nI, nI_add, c0, a0, a1, a2, a3, a4, a5, a6, a7, a8, a9, a10, a11, a12, a13, a14, a15, a16, a17, a18, a19, a20, a21, eq_true a22, h4, h5, lge, ↓reduceIte]
    by_cases a23 : xs i &&& nI 63 = nI 23
    · obtain ⟨r, q2, M2, h4, h5, hR2⟩ := r_richest hR (xs (i + 1))
      refine ⟨_, ⟨i + 5, n, t, k, g, w, z, q2, M2, by omega, rfl, hR2⟩, fun nx => ?_⟩
      simp (disch := omega) only [lit_nI, nm_j, bd_j, gi_nI, tn_nI, nI_add, c0, a0, a1, a2, a3, a4, a5, a6, a7, a8, a9, a10, a11, a12, a13, a14, a15, a16, a17, a18, a19, a20, a21, a22, eq_true a23, h4, h5, lge, ↓reduceIte]
    by_cases a24 : xs i &&& nI 63 = nI 24
    · obtain ⟨r, h4, h5⟩ := r_blameless hR 
      refine ⟨_, ⟨i + 5, n, t, k, g, w, z, q, M, by omega, rfl, hR⟩, fun nx => ?_⟩
      simp (disch := omega) only [lit_nI, nm_j, bd_j, gi_nI, tn_nI, nI_add, c0, a0, a1, a2, a3, a4, a5, a6, a7, a8, a9, a10, a11, a12, a13, a14, a15, a16, a17, a18, a19, a20, a21, a22, a23, eq_true a24, h4, h5, lge, ↓reduceIte]
    by_cases a25 : xs i &&& nI 63 = nI 25
    · obtain ⟨r, t2, q2, M2, h4, h5, hR2⟩ := r_ebb hR (xs (i + 1))
      refine ⟨_, ⟨i + 5, n, t2, k, g, w, z, q2, M2, by omega, rfl, hR2⟩, fun nx => ?_⟩
      simp (disch := omega) only [lit_nI, nm_j, bd_j, gi_nI, tn_nI, nI_add, c0, a0, a1, a2, a3, a4, a5, a6, a7, a8, a9, a10, a11, a12, a13, a14, a15, a16, a17, a18, a19, a20, a21, a22, a23, a24, eq_true a25, h4, h5, lge, ↓reduceIte]
    by_cases a26 : xs i &&& nI 63 = nI 26
    · obtain ⟨r, h4, h5⟩ := r_missing hR 
      refine ⟨_, ⟨i + 5, n, t, k, g, w, z, q, M, by omega, rfl, hR⟩, fun nx => ?_⟩
      simp (disch := omega) only [lit_nI, nm_j, bd_j, gi_nI, tn_nI, nI_add, c0, a0, a1, a2, a3, a4, a5, a6, a7, a8, a9, a10, a11, a12, a13, a14, a15, a16, a17, a18, a19, a20, a21, a22, a23, a24, a25, eq_true a26, h4, h5, lge, ↓reduceIte]
    by_cases a27 : xs i &&& nI 63 = nI 27
    · obtain ⟨r, t2, q2, M2, h4, h5, hR2⟩ := r_two hR (xs (i + 1)) (xs (i + 2))
      refine ⟨_, ⟨i + 5, n, t2, k, g, w, z, q2, M2, by omega, rfl, hR2⟩, fun nx => ?_⟩
      simp (disch := omega) only [lit_nI, nm_j, bd_j, gi_nI, tn_nI, nI_add, c0, a0, a1, a2, a3, a4, a5, a6, a7, a8, a9, a10, a11, a12, a13, a14, a15, a16, a17, a18, a19, a20, a21, a22, a23, a24, a25, a26, eq_true a27, h4, h5, lge, ↓reduceIte]
    by_cases a28 : xs i &&& nI 63 = nI 28
    · obtain ⟨r, t2, q2, M2, h4, h5, hR2⟩ := r_storm hR (xs (i + 1)) (xs (i + 2)) (xs (i + 3)) (xs (i + 4))
      refine ⟨_, ⟨i + 5, n, t2, k, g, w, z, q2, M2, by omega, rfl, hR2⟩, fun nx => ?_⟩
      simp (disch := omega) only [lit_nI, nm_j, bd_j, gi_nI, tn_nI, nI_add, c0, a0, a1, a2, a3, a4, a5, a6, a7, a8, a9, a10, a11, a12, a13, a14, a15, a16, a17, a18, a19, a20, a21, a22, a23, a24, a25, a26, a27, eq_true a28, h4, h5, lge, ↓reduceIte]
    by_cases a29 : xs i &&& nI 63 = nI 29
    · obtain ⟨r, q2, M2, h4, h5, hR2⟩ := r_mean hR (xs (i + 1))
      refine ⟨_, ⟨i + 5, n, t, k, g, w, z, q2, M2, by omega, rfl, hR2⟩, fun nx => ?_⟩
      simp (disch := omega) only [lit_nI, nm_j, bd_j, gi_nI, tn_nI, nI_add, c0, a0, a1, a2, a3, a4, a5, a6, a7, a8, a9, a10, a11, a12, a13, a14, a15, a16, a17, a18, a19, a20, a21, a22, a23, a24, a25, a26, a27, a28, eq_true a29, h4, h5, lge, ↓reduceIte]
    by_cases a30 : xs i &&& nI 63 = nI 30
    · obtain ⟨r, t2, M2, h4, h5, hR2⟩ := r_whoTold hR 
      refine ⟨_, ⟨i + 5, n, t2, k, g, w, z, q, M2, by omega, rfl, hR2⟩, fun nx => ?_⟩
      simp (disch := omega) only [lit_nI, nm_j, bd_j, gi_nI, tn_nI, nI_add, c0, a0, a1, a2, a3, a4, a5, a6, a7, a8, a9, a10, a11, a12, a13, a14, a15, a16, a17, a18, a19, a20, a21, a22, a23, a24, a25, a26, a27, a28, a29, eq_true a30, h4, h5, lge, ↓reduceIte]
    by_cases a31 : xs i &&& nI 63 = nI 31
    · obtain ⟨r, t2, q2, M2, h4, h5, hR2⟩ := r_whatIs hR (xs (i + 1)) (xs (i + 2))
      refine ⟨_, ⟨i + 5, n, t2, k, g, w, z, q2, M2, by omega, rfl, hR2⟩, fun nx => ?_⟩
      simp (disch := omega) only [lit_nI, nm_j, bd_j, gi_nI, tn_nI, nI_add, c0, a0, a1, a2, a3, a4, a5, a6, a7, a8, a9, a10, a11, a12, a13, a14, a15, a16, a17, a18, a19, a20, a21, a22, a23, a24, a25, a26, a27, a28, a29, a30, eq_true a31, h4, h5, lge, ↓reduceIte]
    by_cases a32 : xs i &&& nI 63 = nI 32
    · obtain ⟨r, w2, q2, M2, h4, h5, hR2⟩ := r_row hR (xs (i + 1))
      refine ⟨_, ⟨i + 5, n, t, k, g, w2, z, q2, M2, by omega, rfl, hR2⟩, fun nx => ?_⟩
      simp (disch := omega) only [lit_nI, nm_j, bd_j, gi_nI, tn_nI, nI_add, c0, a0, a1, a2, a3, a4, a5, a6, a7, a8, a9, a10, a11, a12, a13, a14, a15, a16, a17, a18, a19, a20, a21, a22, a23, a24, a25, a26, a27, a28, a29, a30, a31, eq_true a32, h4, h5, lge, ↓reduceIte]
    by_cases a33 : xs i &&& nI 63 = nI 33
    · obtain ⟨r, w2, M2, h4, h5, hR2⟩ := r_judge hR 
      refine ⟨_, ⟨i + 5, n, t, k, g, w2, z, q, M2, by omega, rfl, hR2⟩, fun nx => ?_⟩
      simp (disch := omega) only [lit_nI, nm_j, bd_j, gi_nI, tn_nI, nI_add, c0, a0, a1, a2, a3, a4, a5, a6, a7, a8, a9, a10, a11, a12, a13, a14, a15, a16, a17, a18, a19, a20, a21, a22, a23, a24, a25, a26, a27, a28, a29, a30, a31, a32, eq_true a33, h4, h5, lge, ↓reduceIte]
    by_cases a34 : xs i &&& nI 63 = nI 34
    · obtain ⟨r, w2, M2, h4, h5, hR2⟩ := r_clear hR 
      refine ⟨_, ⟨i + 5, n, t, k, g, w2, z, q, M2, by omega, rfl, hR2⟩, fun nx => ?_⟩
      simp (disch := omega) only [lit_nI, nm_j, bd_j, gi_nI, tn_nI, nI_add, c0, a0, a1, a2, a3, a4, a5, a6, a7, a8, a9, a10, a11, a12, a13, a14, a15, a16, a17, a18, a19, a20, a21, a22, a23, a24, a25, a26, a27, a28, a29, a30, a31, a32, a33, eq_true a34, h4, h5, lge, ↓reduceIte]
    by_cases a35 : xs i &&& nI 63 = nI 35
    · obtain ⟨r, t2, z2, q2, M2, h4, h5, hR2⟩ := r_lots hR (xs (i + 1)) (xs (i + 2)) (xs (i + 3))
      refine ⟨_, ⟨i + 5, n, t2, k, g, w, z2, q2, M2, by omega, rfl, hR2⟩, fun nx => ?_⟩
      simp (disch := omega) only [lit_nI, nm_j, bd_j, gi_nI, tn_nI, nI_add, c0, a0, a1, a2, a3, a4, a5, a6, a7, a8, a9, a10, a11, a12, a13, a14, a15, a16, a17, a18, a19, a20, a21, a22, a23, a24, a25, a26, a27, a28, a29, a30, a31, a32, a33, a34, eq_true a35, h4, h5, lge, ↓reduceIte]
    by_cases a36 : xs i &&& nI 63 = nI 36
    · obtain ⟨r, k2, q2, M2, h4, h5, hR2⟩ := r_image hR 
      refine ⟨_, ⟨i + 5, n, t, k2, g, w, z, q2, M2, by omega, rfl, hR2⟩, fun nx => ?_⟩
      simp (disch := omega) only [lit_nI, nm_j, bd_j, gi_nI, tn_nI, nI_add, c0, a0, a1, a2, a3, a4, a5, a6, a7, a8, a9, a10, a11, a12, a13, a14, a15, a16, a17, a18, a19, a20, a21, a22, a23, a24, a25, a26, a27, a28, a29, a30, a31, a32, a33, a34, a35, eq_true a36, h4, h5, lge, ↓reduceIte]
    by_cases a37 : xs i &&& nI 63 = nI 37
    · obtain ⟨r, n2, q2, M2, h4, h5, hR2⟩ := r_on hR 
      refine ⟨_, ⟨i + 5, n2, t, k, g, w, z, q2, M2, by omega, rfl, hR2⟩, fun nx => ?_⟩
      simp (disch := omega) only [lit_nI, nm_j, bd_j, gi_nI, tn_nI, nI_add, c0, a0, a1, a2, a3, a4, a5, a6, a7, a8, a9, a10, a11, a12, a13, a14, a15, a16, a17, a18, a19, a20, a21, a22, a23, a24, a25, a26, a27, a28, a29, a30, a31, a32, a33, a34, a35, a36, eq_true a37, h4, h5, lge, ↓reduceIte]
    by_cases a38 : xs i &&& nI 63 = nI 38
    · obtain ⟨r, h4, h5⟩ := r_count hR (xs (i + 1))
      refine ⟨_, ⟨i + 5, n, t, k, g, w, z, q, M, by omega, rfl, hR⟩, fun nx => ?_⟩
      simp (disch := omega) only [lit_nI, nm_j, bd_j, gi_nI, tn_nI, nI_add, c0, a0, a1, a2, a3, a4, a5, a6, a7, a8, a9, a10, a11, a12, a13, a14, a15, a16, a17, a18, a19, a20, a21, a22, a23, a24, a25, a26, a27, a28, a29, a30, a31, a32, a33, a34, a35, a36, a37, eq_true a38, h4, h5, lge, ↓reduceIte]
    refine ⟨_, ⟨i + 5, n, t, k, g, w, z, q, M, by omega, rfl, hR⟩, fun nx => ?_⟩
    simp (disch := omega) only [lit_nI, nm_j, bd_j, gi_nI, tn_nI, nI_add, c0, a0, a1, a2, a3, a4, a5, a6, a7, a8, a9, a10, a11, a12, a13, a14, a15, a16, a17, a18, a19, a20, a21, a22, a23, a24, a25, a26, a27, a28, a29, a30, a31, a32, a33, a34, a35, a36, a37, a38, ↓reduceIte]
  · obtain ⟨i, n, t, k, g, w, z, q, M, hi, rfl, hR⟩ := hs1
    have c0 : Int32.ofNat L - nI 5 < nI i := by
      show nI L - nI 5 < nI i
      by_cases h5 : L < 5
      · have : i = 0 := by omega
        rw [this]
        exact l5 L h5
      · rw [nI_sub (by omega), nI_ltI (by omega) (by omega)]
        omega
    refine ⟨_, rfl, fun nx => ?_⟩
    simp only [lit_nI, c0, ↓reduceIte]
