/-! STORM, the reference -/
theorem ex_sw {α β : Type} {P : α → Prop} {x : Option α} (h : ∃ r, x = some r ∧ P r) : ∃ r, P r ∧ ∀ _ : β, x = some r := by
  obtain ⟨r, h1, h2⟩ := h
  exact ⟨r, h2, fun _ => h1⟩
theorem X5_hb {v i : Nat} (hv : v < 128) (hi : i < 7) : f_X5_has (nI v) (nI i) = some (nI (v / 2 ^ i % 2)) := by
  have eb := shb v hv i hi
  unfold f_X5_has
  simp only [lit_nI, eb]
  have : v / 2 ^ i % 2 < 2 := Nat.mod_lt _ (by decide)
  rcases (show v / 2 ^ i % 2 = 0 ∨ v / 2 ^ i % 2 = 1 by omega) with h | h
  · rw [h]
    simp (disch := omega) only [gi_nI, tn_nI, hs_1, hs_2, hs_3, hs_4, hs_5, hs_6, hs_7, hs_s, hs_m, hs_h, hs_t, lit_nI, nI_add, nI_mul, nI_eq, nI_leI, nI_ltI, nm_j, bd_j, Nat.one_ne_zero, Nat.zero_ne_one, Nat.reduceEqDiff, Nat.reduceLeDiff, Nat.reduceLT, Nat.reduceAdd, Nat.reduceSub, Nat.reduceMul, e10, e01, en1, en2, en3, en4, en6, rq1, rq2, rq3, rq4, rq6, rm1, rm2, rm3, rm4, rm6, fz0, fz1, X5_bound_e, X5_isIn_e, Nat.lt_irrefl, Nat.le_refl, Nat.not_lt_zero, Nat.zero_le, n9a, n9b, n9c, n9d, n9e, n9f, n9g, ↓reduceIte]
  · rw [h]
    simp (disch := omega) only [gi_nI, tn_nI, hs_1, hs_2, hs_3, hs_4, hs_5, hs_6, hs_7, hs_s, hs_m, hs_h, hs_t, lit_nI, nI_add, nI_mul, nI_eq, nI_leI, nI_ltI, nm_j, bd_j, Nat.one_ne_zero, Nat.zero_ne_one, Nat.reduceEqDiff, Nat.reduceLeDiff, Nat.reduceLT, Nat.reduceAdd, Nat.reduceSub, Nat.reduceMul, e10, e01, en1, en2, en3, en4, en6, rq1, rq2, rq3, rq4, rq6, rm1, rm2, rm3, rm4, rm6, fz0, fz1, X5_bound_e, X5_isIn_e, Nat.lt_irrefl, Nat.le_refl, Nat.not_lt_zero, Nat.zero_le, n9a, n9b, n9c, n9d, n9e, n9f, n9g, ↓reduceIte]
theorem lm1 {a : Nat} : lN a * (1 : Int64) = lN a := by
  show lN a * lN 1 = _
  rw [lN_mul, Nat.mul_one]
theorem la0 {a : Nat} : lN a + (0 : Int64) = lN a := by
  show lN a + lN 0 = _
  rw [lN_add, Nat.add_zero]
theorem zc_t0 {v i : Nat} (h : v / 2 ^ i % 2 = 0) : zc v (i + 1) = zc v i + 1 := by simp only [zc]; rw [if_pos h]
theorem zc_t1 {v i : Nat} (h : ¬ v / 2 ^ i % 2 = 0) : zc v (i + 1) = zc v i := by simp only [zc]; rw [if_neg h]; rfl
theorem X5_sto {c kc : G2} {GM g w q : St} {s n t p : Nat} (hG : Gd c) (hS : Sx kc g w q GM) (hs1 : s < c 16 0) (hn : n ≤ 7) (ht : t ≤ 20) (ht0 : 2 ≤ t) (hp : p ≤ 1) : ∃ r, f_X5_storm (hs c GM) (nI s) (nI n) (nI t) (nI p) = some r ∧ ∃ G', r = (lN (frN (wy c s n t (2 ^ n)) (t ^ n) p), hs c G') ∧ Sx kc g w q G' := by
  have hI := hG.1
  have hT := hG.2.2.2.1
  have hN5 := hI.2.1
  have e1 := X5_isShip (G := GM) hI (show s < 2147483648 by omega)
  rw [if_pos hs1] at e1
  have l2 : 2 ^ n ≤ 2 ^ 7 := Nat.pow_le_pow_right (by decide) hn
  have ep := p2e n (by omega)
  have hw := wy_le (c := c) (s := s) hn ht (2 ^ n)
  have hw2 : 2 ^ n * 1280000000 ≤ 128 * 1280000000 := Nat.mul_le_mul_right _ l2
  obtain ⟨ht1, ht2⟩ := tn_le hn ht ht0
  have efr := X5_po (u := wy c s n t (2 ^ n)) (b := t ^ n) (p := p) (by omega) (by omega) ht2 hp
  have et : (nI t).toInt64 = lN t := nI_l (by omega)
  have et1 : (nI (t - 1)).toInt64 = lN (t - 1) := nI_l (by omega)
  have hn7 : ¬ 7 < n := by omega
  have hp1 : ¬ 1 < p := by omega
  unfold f_X5_storm
  generalize hM : 2 ^ n = N at *
  simp (disch := omega) only [gi_nI, tn_nI, hs_1, hs_2, hs_3, hs_4, hs_5, hs_6, hs_7, hs_s, hs_m, hs_h, hs_t, lit_nI, nI_add, nI_mul, nI_eq, nI_leI, nI_ltI, nm_j, bd_j, Nat.one_ne_zero, Nat.zero_ne_one, Nat.reduceEqDiff, Nat.reduceLeDiff, Nat.reduceLT, Nat.reduceAdd, Nat.reduceSub, Nat.reduceMul, e10, e01, en1, en2, en3, en4, en6, rq1, rq2, rq3, rq4, rq6, rm1, rm2, rm3, rm4, rm6, fz0, fz1, X5_bound_e, X5_isIn_e, Nat.lt_irrefl, Nat.le_refl, Nat.not_lt_zero, Nat.zero_le, n9a, n9b, n9c, n9d, n9e, n9f, n9g, e1, hn7, ht, ht0, hp1, ↓reduceIte]
  refine lp_r (fun j x => x = (lN (t ^ j), nI j)) _ n rfl (fun j hj x hx => Or.inl ?_) (fun x hx => ?_) (by omega)
  · subst hx
    have h1 : ¬ n ≤ j := by omega
    refine ⟨_, rfl, fun nx => ?_⟩
    simp (disch := omega) only [gi_nI, tn_nI, hs_1, hs_2, hs_3, hs_4, hs_5, hs_6, hs_7, hs_s, hs_m, hs_h, hs_t, lit_nI, nI_add, nI_mul, nI_eq, nI_leI, nI_ltI, nm_j, bd_j, Nat.one_ne_zero, Nat.zero_ne_one, Nat.reduceEqDiff, Nat.reduceLeDiff, Nat.reduceLT, Nat.reduceAdd, Nat.reduceSub, Nat.reduceMul, e10, e01, en1, en2, en3, en4, en6, rq1, rq2, rq3, rq4, rq6, rm1, rm2, rm3, rm4, rm6, fz0, fz1, X5_bound_e, X5_isIn_e, Nat.lt_irrefl, Nat.le_refl, Nat.not_lt_zero, Nat.zero_le, n9a, n9b, n9c, n9d, n9e, n9f, n9g, h1, et, lN_mul, ↓reduceIte]
    rfl
  · subst hx
    simp (disch := omega) only [gi_nI, tn_nI, hs_1, hs_2, hs_3, hs_4, hs_5, hs_6, hs_7, hs_s, hs_m, hs_h, hs_t, lit_nI, nI_add, nI_mul, nI_eq, nI_leI, nI_ltI, nm_j, bd_j, Nat.one_ne_zero, Nat.zero_ne_one, Nat.reduceEqDiff, Nat.reduceLeDiff, Nat.reduceLT, Nat.reduceAdd, Nat.reduceSub, Nat.reduceMul, e10, e01, en1, en2, en3, en4, en6, rq1, rq2, rq3, rq4, rq6, rm1, rm2, rm3, rm4, rm6, fz0, fz1, X5_bound_e, X5_isIn_e, Nat.lt_irrefl, Nat.le_refl, Nat.not_lt_zero, Nat.zero_le, n9a, n9b, n9c, n9d, n9e, n9f, n9g, ep, ↓reduceIte]
    refine ex_sw ?_
    refine lp_r (fun v x => ∃ G', x = (lN (wy c s n t v), nI v, hs c G') ∧ Sx kc g w q G') _ N ⟨GM, rfl, hS⟩ (fun v hv x hx => Or.inl ?_) (fun x hx => ?_) (by omega)
    · obtain ⟨G, rfl, hSG⟩ := hx
      have h1 : ¬ N ≤ v := by omega
      obtain ⟨GT, t1, t2, t3⟩ := TF hSG hG.2.1
      have hHn := Hd_sg (v := v) hG.hd n (by omega)
      obtain ⟨G', t4, t5⟩ := t3 (sg c v n) hHn.2.1 GT rfl t2
      simp (disch := omega) only [gi_nI, tn_nI, hs_1, hs_2, hs_3, hs_4, hs_5, hs_6, hs_7, hs_s, hs_m, hs_h, hs_t, lit_nI, nI_add, nI_mul, nI_eq, nI_leI, nI_ltI, nm_j, bd_j, Nat.one_ne_zero, Nat.zero_ne_one, Nat.reduceEqDiff, Nat.reduceLeDiff, Nat.reduceLT, Nat.reduceAdd, Nat.reduceSub, Nat.reduceMul, e10, e01, en1, en2, en3, en4, en6, rq1, rq2, rq3, rq4, rq6, rm1, rm2, rm3, rm4, rm6, fz0, fz1, X5_bound_e, X5_isIn_e, Nat.lt_irrefl, Nat.le_refl, Nat.not_lt_zero, Nat.zero_le, n9a, n9b, n9c, n9d, n9e, n9f, n9g, h1, t1, ↓reduceIte]
      refine lp_in (fun i x => x = (lN ((t - 1) ^ zc v i), nI i, hs (sg c v i) GT)) _ n rfl (fun i hi x hx => ?_) (fun x hx => ?_) (by omega)
      · subst hx
        have h2 : ¬ n ≤ i := by omega
        have hH := Hd_sg (v := v) hG.hd i (by omega)
        have hti := sg_t (c := c) (v := v) i
        have eb := X5_hb (v := v) (i := i) (by omega) (by omega)
        by_cases h : v / 2 ^ i % 2 = 0
        · rw [h] at eb
          have e5 := X5_goesTide (G := GT) hH.1 (by omega)
          rw [sg_t0 h, zc_t0 h]
          refine ⟨_, rfl, fun k nx => ?_⟩
          simp (disch := omega) only [gi_nI, tn_nI, hs_1, hs_2, hs_3, hs_4, hs_5, hs_6, hs_7, hs_s, hs_m, hs_h, hs_t, lit_nI, nI_add, nI_mul, nI_eq, nI_leI, nI_ltI, nm_j, bd_j, Nat.one_ne_zero, Nat.zero_ne_one, Nat.reduceEqDiff, Nat.reduceLeDiff, Nat.reduceLT, Nat.reduceAdd, Nat.reduceSub, Nat.reduceMul, e10, e01, en1, en2, en3, en4, en6, rq1, rq2, rq3, rq4, rq6, rm1, rm2, rm3, rm4, rm6, fz0, fz1, X5_bound_e, X5_isIn_e, Nat.lt_irrefl, Nat.le_refl, Nat.not_lt_zero, Nat.zero_le, n9a, n9b, n9c, n9d, n9e, n9f, n9g, h2, eb, nI_sub, et1, lN_mul, e5, ↓reduceIte]
          rfl
        · have hb1 : v / 2 ^ i % 2 = 1 := by omega
          rw [hb1] at eb
          have e4 := X5_storms (G := GT) hH.1 hH.2.2.1
          have hH2 := Hd_stm hH
          have o3 : stm (sg c v i) 16 3 = c 16 3 + i := by rw [stm_o (by decide) (by decide), hti]
          have e5 := X5_goesTide (G := GT) hH2.1 (by omega)
          rw [sg_t1 h, zc_t1 h]
          refine ⟨_, rfl, fun k nx => ?_⟩
          simp (disch := omega) only [gi_nI, tn_nI, hs_1, hs_2, hs_3, hs_4, hs_5, hs_6, hs_7, hs_s, hs_m, hs_h, hs_t, lit_nI, nI_add, nI_mul, nI_eq, nI_leI, nI_ltI, nm_j, bd_j, Nat.one_ne_zero, Nat.zero_ne_one, Nat.reduceEqDiff, Nat.reduceLeDiff, Nat.reduceLT, Nat.reduceAdd, Nat.reduceSub, Nat.reduceMul, e10, e01, en1, en2, en3, en4, en6, rq1, rq2, rq3, rq4, rq6, rm1, rm2, rm3, rm4, rm6, fz0, fz1, X5_bound_e, X5_isIn_e, Nat.lt_irrefl, Nat.le_refl, Nat.not_lt_zero, Nat.zero_le, n9a, n9b, n9c, n9d, n9e, n9f, n9g, h2, eb, lm1, e4, e5, ↓reduceIte]
      · subst hx
        have b3 := hHn.1.1 3 s
        by_cases h3 : sg c v n 3 s = 0
        · have ew : wy c s n t (v + 1) = wy c s n t v := by simp only [wy]; rw [if_pos h3]; rfl
          refine ⟨_, ⟨G', rfl, t5⟩, fun k nx => ?_⟩
          rw [ew]
          simp (disch := omega) only [gi_nI, tn_nI, hs_1, hs_2, hs_3, hs_4, hs_5, hs_6, hs_7, hs_s, hs_m, hs_h, hs_t, lit_nI, nI_add, nI_mul, nI_eq, nI_leI, nI_ltI, nm_j, bd_j, Nat.one_ne_zero, Nat.zero_ne_one, Nat.reduceEqDiff, Nat.reduceLeDiff, Nat.reduceLT, Nat.reduceAdd, Nat.reduceSub, Nat.reduceMul, e10, e01, en1, en2, en3, en4, en6, rq1, rq2, rq3, rq4, rq6, rm1, rm2, rm3, rm4, rm6, fz0, fz1, X5_bound_e, X5_isIn_e, Nat.lt_irrefl, Nat.le_refl, Nat.not_lt_zero, Nat.zero_le, n9a, n9b, n9c, n9d, n9e, n9f, n9g, h3, la0, t4, ↓reduceIte]
        · have ew : wy c s n t (v + 1) = wy c s n t v + (t - 1) ^ zc v n := by simp only [wy]; rw [if_neg h3]
          have h4 : ¬ sg c v n 3 s ≤ 0 := by omega
          refine ⟨_, ⟨G', rfl, t5⟩, fun k nx => ?_⟩
          rw [ew]
          simp (disch := omega) only [gi_nI, tn_nI, hs_1, hs_2, hs_3, hs_4, hs_5, hs_6, hs_7, hs_s, hs_m, hs_h, hs_t, lit_nI, nI_add, nI_mul, nI_eq, nI_leI, nI_ltI, nm_j, bd_j, Nat.one_ne_zero, Nat.zero_ne_one, Nat.reduceEqDiff, Nat.reduceLeDiff, Nat.reduceLT, Nat.reduceAdd, Nat.reduceSub, Nat.reduceMul, e10, e01, en1, en2, en3, en4, en6, rq1, rq2, rq3, rq4, rq6, rm1, rm2, rm3, rm4, rm6, fz0, fz1, X5_bound_e, X5_isIn_e, Nat.lt_irrefl, Nat.le_refl, Nat.not_lt_zero, Nat.zero_le, n9a, n9b, n9c, n9d, n9e, n9f, n9g, h4, lN_add, t4, ↓reduceIte]
    · obtain ⟨G, rfl, hSG⟩ := hx
      refine ⟨_, ⟨G, rfl, hSG⟩, fun nx => ?_⟩
      simp (disch := omega) only [gi_nI, tn_nI, hs_1, hs_2, hs_3, hs_4, hs_5, hs_6, hs_7, hs_s, hs_m, hs_h, hs_t, lit_nI, nI_add, nI_mul, nI_eq, nI_leI, nI_ltI, nm_j, bd_j, Nat.one_ne_zero, Nat.zero_ne_one, Nat.reduceEqDiff, Nat.reduceLeDiff, Nat.reduceLT, Nat.reduceAdd, Nat.reduceSub, Nat.reduceMul, e10, e01, en1, en2, en3, en4, en6, rq1, rq2, rq3, rq4, rq6, rm1, rm2, rm3, rm4, rm6, fz0, fz1, X5_bound_e, X5_isIn_e, Nat.lt_irrefl, Nat.le_refl, Nat.not_lt_zero, Nat.zero_le, n9a, n9b, n9c, n9d, n9e, n9f, n9g, efr, ↓reduceIte]
theorem r_storm {n t k g w z q M : St} (hR : R n t k g w z q M) (p1 p2 p3 p4 : Int32) : ∃ r t' q' M', f_X4_storm n t k g w z q p1 p2 p3 p4 = some (r, t', q') ∧ f_X5_storm M p1 p2 p3 p4 = some (r, M') ∧ R n t' k g w z q' M' := by
  have hQ := hR
  obtain ⟨c, ct, kc, Gn, Gt, Gk, GM, rfl, rfl, rfl, rfl, hG, hZ, hK, hS⟩ := hR
  have hI := hG.1
  have hN := hI.2.1
  rcases ship_or hI p1 with ⟨s, hs1, rfl⟩ | hn
  · have e1 := X0_hasShip (G := Gn) hI (show s < 2147483648 by omega)
    have e2 := X5_isShip (G := GM) hI (show s < 2147483648 by omega)
    rw [if_pos hs1] at e1 e2
    by_cases h1 : p2 < nI 0
    · refine ⟨lgL (-nI 4), _, rf q 4, rf (hs c GM) 4, ?_, ?_, hQ.ref 4⟩
      · unfold f_X4_storm
        simp (disch := omega) only [gi_nI, tn_nI, hs_1, hs_2, hs_3, hs_4, hs_5, hs_6, hs_7, hs_s, hs_m, hs_h, hs_t, lit_nI, nI_add, nI_mul, nI_eq, nI_leI, nI_ltI, nm_j, bd_j, Nat.one_ne_zero, Nat.zero_ne_one, Nat.reduceEqDiff, Nat.reduceLeDiff, Nat.reduceLT, Nat.reduceAdd, Nat.reduceSub, Nat.reduceMul, e10, e01, en1, en2, en3, en4, en6, rq1, rq2, rq3, rq4, rq6, rm1, rm2, rm3, rm4, rm6, fz0, fz1, X5_bound_e, X5_isIn_e, Nat.lt_irrefl, Nat.le_refl, Nat.not_lt_zero, Nat.zero_le, n9a, n9b, n9c, n9d, n9e, n9f, n9g, e1, h1, lg_e, ↓reduceIte]
      · unfold f_X5_storm
        simp (disch := omega) only [gi_nI, tn_nI, hs_1, hs_2, hs_3, hs_4, hs_5, hs_6, hs_7, hs_s, hs_m, hs_h, hs_t, lit_nI, nI_add, nI_mul, nI_eq, nI_leI, nI_ltI, nm_j, bd_j, Nat.one_ne_zero, Nat.zero_ne_one, Nat.reduceEqDiff, Nat.reduceLeDiff, Nat.reduceLT, Nat.reduceAdd, Nat.reduceSub, Nat.reduceMul, e10, e01, en1, en2, en3, en4, en6, rq1, rq2, rq3, rq4, rq6, rm1, rm2, rm3, rm4, rm6, fz0, fz1, X5_bound_e, X5_isIn_e, Nat.lt_irrefl, Nat.le_refl, Nat.not_lt_zero, Nat.zero_le, n9a, n9b, n9c, n9d, n9e, n9f, n9g, e2, h1, rw4, ↓reduceIte]
    · by_cases h2 : nI 2 ≤ p3
      · by_cases h3 : nI 7 < p2
        · refine ⟨lgL (-nI 6), _, rf q 6, rf (hs c GM) 6, ?_, ?_, hQ.ref 6⟩
          · unfold f_X4_storm
            simp (disch := omega) only [gi_nI, tn_nI, hs_1, hs_2, hs_3, hs_4, hs_5, hs_6, hs_7, hs_s, hs_m, hs_h, hs_t, lit_nI, nI_add, nI_mul, nI_eq, nI_leI, nI_ltI, nm_j, bd_j, Nat.one_ne_zero, Nat.zero_ne_one, Nat.reduceEqDiff, Nat.reduceLeDiff, Nat.reduceLT, Nat.reduceAdd, Nat.reduceSub, Nat.reduceMul, e10, e01, en1, en2, en3, en4, en6, rq1, rq2, rq3, rq4, rq6, rm1, rm2, rm3, rm4, rm6, fz0, fz1, X5_bound_e, X5_isIn_e, Nat.lt_irrefl, Nat.le_refl, Nat.not_lt_zero, Nat.zero_le, n9a, n9b, n9c, n9d, n9e, n9f, n9g, e1, h1, h2, h3, lg_e, ↓reduceIte]
          · unfold f_X5_storm
            simp (disch := omega) only [gi_nI, tn_nI, hs_1, hs_2, hs_3, hs_4, hs_5, hs_6, hs_7, hs_s, hs_m, hs_h, hs_t, lit_nI, nI_add, nI_mul, nI_eq, nI_leI, nI_ltI, nm_j, bd_j, Nat.one_ne_zero, Nat.zero_ne_one, Nat.reduceEqDiff, Nat.reduceLeDiff, Nat.reduceLT, Nat.reduceAdd, Nat.reduceSub, Nat.reduceMul, e10, e01, en1, en2, en3, en4, en6, rq1, rq2, rq3, rq4, rq6, rm1, rm2, rm3, rm4, rm6, fz0, fz1, X5_bound_e, X5_isIn_e, Nat.lt_irrefl, Nat.le_refl, Nat.not_lt_zero, Nat.zero_le, n9a, n9b, n9c, n9d, n9e, n9f, n9g, e2, h1, h2, h3, rw6, ↓reduceIte]
        · by_cases h4 : p3 ≤ nI 20
          · rcases wh01 p4 with h5 | h5 | ⟨w1, w2, w3⟩
            · obtain ⟨a, ha, rfl⟩ := rng (b := 7) (by decide) (Int32.not_lt.mp h1) (Int32.not_lt.mp h3)
              obtain ⟨b, hb0, hb, rfl⟩ := rng1 (by decide) (by decide) h2 h4
              subst h5
              obtain ⟨_, a1, d, rfl, a2⟩ := X4_sto (Gn := Gn) (Gt := Gt) (k := hs kc Gk) (g := g) (w := w) (z := z) (q := q) (p := 0) hG hZ hs1 ha hb hb0 (by omega)
              obtain ⟨_, a3, G', rfl, a4⟩ := X5_sto (p := 0) hG hS hs1 ha hb hb0 (by omega)
              exact ⟨_, _, q, _, a1, a3, c, d, kc, Gn, Gt, Gk, G', rfl, rfl, rfl, rfl, hG, a2, hK, a4⟩
            · obtain ⟨a, ha, rfl⟩ := rng (b := 7) (by decide) (Int32.not_lt.mp h1) (Int32.not_lt.mp h3)
              obtain ⟨b, hb0, hb, rfl⟩ := rng1 (by decide) (by decide) h2 h4
              subst h5
              obtain ⟨_, a1, d, rfl, a2⟩ := X4_sto (Gn := Gn) (Gt := Gt) (k := hs kc Gk) (g := g) (w := w) (z := z) (q := q) (p := 1) hG hZ hs1 ha hb hb0 (by omega)
              obtain ⟨_, a3, G', rfl, a4⟩ := X5_sto (p := 1) hG hS hs1 ha hb hb0 (by omega)
              exact ⟨_, _, q, _, a1, a3, c, d, kc, Gn, Gt, Gk, G', rfl, rfl, rfl, rfl, hG, a2, hK, a4⟩
            · refine ⟨lgL (-nI 2), _, rf q 2, rf (hs c GM) 2, ?_, ?_, hQ.ref 2⟩
              · unfold f_X4_storm
                simp (disch := omega) only [gi_nI, tn_nI, hs_1, hs_2, hs_3, hs_4, hs_5, hs_6, hs_7, hs_s, hs_m, hs_h, hs_t, lit_nI, nI_add, nI_mul, nI_eq, nI_leI, nI_ltI, nm_j, bd_j, Nat.one_ne_zero, Nat.zero_ne_one, Nat.reduceEqDiff, Nat.reduceLeDiff, Nat.reduceLT, Nat.reduceAdd, Nat.reduceSub, Nat.reduceMul, e10, e01, en1, en2, en3, en4, en6, rq1, rq2, rq3, rq4, rq6, rm1, rm2, rm3, rm4, rm6, fz0, fz1, X5_bound_e, X5_isIn_e, Nat.lt_irrefl, Nat.le_refl, Nat.not_lt_zero, Nat.zero_le, n9a, n9b, n9c, n9d, n9e, n9f, n9g, e1, h1, h2, h3, h4, w1, w2, lg_e, ↓reduceIte]
              · unfold f_X5_storm
                simp (disch := omega) only [gi_nI, tn_nI, hs_1, hs_2, hs_3, hs_4, hs_5, hs_6, hs_7, hs_s, hs_m, hs_h, hs_t, lit_nI, nI_add, nI_mul, nI_eq, nI_leI, nI_ltI, nm_j, bd_j, Nat.one_ne_zero, Nat.zero_ne_one, Nat.reduceEqDiff, Nat.reduceLeDiff, Nat.reduceLT, Nat.reduceAdd, Nat.reduceSub, Nat.reduceMul, e10, e01, en1, en2, en3, en4, en6, rq1, rq2, rq3, rq4, rq6, rm1, rm2, rm3, rm4, rm6, fz0, fz1, X5_bound_e, X5_isIn_e, Nat.lt_irrefl, Nat.le_refl, Nat.not_lt_zero, Nat.zero_le, n9a, n9b, n9c, n9d, n9e, n9f, n9g, e2, h1, h2, h3, h4, w3, rw2, ↓reduceIte]
          · refine ⟨lgL (-nI 6), _, rf q 6, rf (hs c GM) 6, ?_, ?_, hQ.ref 6⟩
            · unfold f_X4_storm
              simp (disch := omega) only [gi_nI, tn_nI, hs_1, hs_2, hs_3, hs_4, hs_5, hs_6, hs_7, hs_s, hs_m, hs_h, hs_t, lit_nI, nI_add, nI_mul, nI_eq, nI_leI, nI_ltI, nm_j, bd_j, Nat.one_ne_zero, Nat.zero_ne_one, Nat.reduceEqDiff, Nat.reduceLeDiff, Nat.reduceLT, Nat.reduceAdd, Nat.reduceSub, Nat.reduceMul, e10, e01, en1, en2, en3, en4, en6, rq1, rq2, rq3, rq4, rq6, rm1, rm2, rm3, rm4, rm6, fz0, fz1, X5_bound_e, X5_isIn_e, Nat.lt_irrefl, Nat.le_refl, Nat.not_lt_zero, Nat.zero_le, n9a, n9b, n9c, n9d, n9e, n9f, n9g, e1, h1, h2, h3, h4, lg_e, ↓reduceIte]
            · unfold f_X5_storm
              simp (disch := omega) only [gi_nI, tn_nI, hs_1, hs_2, hs_3, hs_4, hs_5, hs_6, hs_7, hs_s, hs_m, hs_h, hs_t, lit_nI, nI_add, nI_mul, nI_eq, nI_leI, nI_ltI, nm_j, bd_j, Nat.one_ne_zero, Nat.zero_ne_one, Nat.reduceEqDiff, Nat.reduceLeDiff, Nat.reduceLT, Nat.reduceAdd, Nat.reduceSub, Nat.reduceMul, e10, e01, en1, en2, en3, en4, en6, rq1, rq2, rq3, rq4, rq6, rm1, rm2, rm3, rm4, rm6, fz0, fz1, X5_bound_e, X5_isIn_e, Nat.lt_irrefl, Nat.le_refl, Nat.not_lt_zero, Nat.zero_le, n9a, n9b, n9c, n9d, n9e, n9f, n9g, e2, h1, h2, h3, h4, rw6, ↓reduceIte]
      · refine ⟨lgL (-nI 4), _, rf q 4, rf (hs c GM) 4, ?_, ?_, hQ.ref 4⟩
        · unfold f_X4_storm
          simp (disch := omega) only [gi_nI, tn_nI, hs_1, hs_2, hs_3, hs_4, hs_5, hs_6, hs_7, hs_s, hs_m, hs_h, hs_t, lit_nI, nI_add, nI_mul, nI_eq, nI_leI, nI_ltI, nm_j, bd_j, Nat.one_ne_zero, Nat.zero_ne_one, Nat.reduceEqDiff, Nat.reduceLeDiff, Nat.reduceLT, Nat.reduceAdd, Nat.reduceSub, Nat.reduceMul, e10, e01, en1, en2, en3, en4, en6, rq1, rq2, rq3, rq4, rq6, rm1, rm2, rm3, rm4, rm6, fz0, fz1, X5_bound_e, X5_isIn_e, Nat.lt_irrefl, Nat.le_refl, Nat.not_lt_zero, Nat.zero_le, n9a, n9b, n9c, n9d, n9e, n9f, n9g, e1, h1, h2, lg_e, ↓reduceIte]
        · unfold f_X5_storm
          simp (disch := omega) only [gi_nI, tn_nI, hs_1, hs_2, hs_3, hs_4, hs_5, hs_6, hs_7, hs_s, hs_m, hs_h, hs_t, lit_nI, nI_add, nI_mul, nI_eq, nI_leI, nI_ltI, nm_j, bd_j, Nat.one_ne_zero, Nat.zero_ne_one, Nat.reduceEqDiff, Nat.reduceLeDiff, Nat.reduceLT, Nat.reduceAdd, Nat.reduceSub, Nat.reduceMul, e10, e01, en1, en2, en3, en4, en6, rq1, rq2, rq3, rq4, rq6, rm1, rm2, rm3, rm4, rm6, fz0, fz1, X5_bound_e, X5_isIn_e, Nat.lt_irrefl, Nat.le_refl, Nat.not_lt_zero, Nat.zero_le, n9a, n9b, n9c, n9d, n9e, n9f, n9g, e2, h1, h2, rw4, ↓reduceIte]
  · obtain ⟨e1, -⟩ := hn Gn
    obtain ⟨-, e2⟩ := hn GM
    refine ⟨lgL (-nI 1), _, rf q 1, rf (hs c GM) 1, ?_, ?_, hQ.ref 1⟩
    · unfold f_X4_storm
      rw [e1, bd_j, if_pos (show nI 0 = 0 from rfl)]
      simp (disch := omega) only [gi_nI, tn_nI, hs_1, hs_2, hs_3, hs_4, hs_5, hs_6, hs_7, hs_s, hs_m, hs_h, hs_t, lit_nI, nI_add, nI_mul, nI_eq, nI_leI, nI_ltI, nm_j, bd_j, Nat.one_ne_zero, Nat.zero_ne_one, Nat.reduceEqDiff, Nat.reduceLeDiff, Nat.reduceLT, Nat.reduceAdd, Nat.reduceSub, Nat.reduceMul, e10, e01, en1, en2, en3, en4, en6, rq1, rq2, rq3, rq4, rq6, rm1, rm2, rm3, rm4, rm6, fz0, fz1, X5_bound_e, X5_isIn_e, Nat.lt_irrefl, Nat.le_refl, Nat.not_lt_zero, Nat.zero_le, n9a, n9b, n9c, n9d, n9e, n9f, n9g, lg_e, ↓reduceIte]
    · unfold f_X5_storm
      rw [e2, bd_j, if_pos (show nI 0 = 0 from rfl)]
      simp (disch := omega) only [gi_nI, tn_nI, hs_1, hs_2, hs_3, hs_4, hs_5, hs_6, hs_7, hs_s, hs_m, hs_h, hs_t, lit_nI, nI_add, nI_mul, nI_eq, nI_leI, nI_ltI, nm_j, bd_j, Nat.one_ne_zero, Nat.zero_ne_one, Nat.reduceEqDiff, Nat.reduceLeDiff, Nat.reduceLT, Nat.reduceAdd, Nat.reduceSub, Nat.reduceMul, e10, e01, en1, en2, en3, en4, en6, rq1, rq2, rq3, rq4, rq6, rm1, rm2, rm3, rm4, rm6, fz0, fz1, X5_bound_e, X5_isIn_e, Nat.lt_irrefl, Nat.le_refl, Nat.not_lt_zero, Nat.zero_le, n9a, n9b, n9c, n9d, n9e, n9f, n9g, rw1, ↓reduceIte]
