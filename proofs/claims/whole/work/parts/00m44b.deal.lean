/-! DEAL -/
theorem nm_j {α β : Type} {v : α} {k : α → β} : nm v k = k v := eq_of_heq (HEq.refl _)
theorem bd_j {α β : Type} {a : α} {k : α → Option β} : bd (some a) k = k a := eq_of_heq (HEq.refl _)
theorem X4_deal {c ct : G2} {Gn Gt k g w z q : St} (hG : Gd c) (hZ : Zc ct) : ∃ r, f_X4_deal (hs c Gn) (hs ct Gt) k g w z q = some r ∧ ∃ d, r = ((dl c (c 16 1)).1, hs d Gt) ∧ Zc d := by
  have hI := hG.1
  have hN := hI.2.2.1
  have e1 := X0_countRisable (G := Gn) hI
  unfold f_X4_deal
  simp (disch := omega) only [gi_nI, tn_nI, hs_1, hs_2, hs_3, hs_4, hs_5, hs_6, hs_7, hs_s, hs_m, hs_h, hs_t, lit_nI, nI_add, nI_mul, nI_eq, nI_leI, nI_ltI, nm_j, bd_j, Nat.one_ne_zero, Nat.zero_ne_one, Nat.reduceEqDiff, Nat.reduceLeDiff, Nat.reduceLT, Nat.reduceAdd, Nat.reduceSub, Nat.reduceMul, e10, e01, en1, en2, en3, en4, en6, rq1, rq2, rq3, rq4, rq6, rm1, rm2, rm3, rm4, rm6, fz0, fz1, X5_bound_e, X5_isIn_e, Nat.lt_irrefl, Nat.le_refl, Nat.not_lt_zero, Nat.zero_le, n9a, n9b, n9c, n9d, n9e, n9f, n9g, e1, ↓reduceIte]
  refine lp_r (fun a s => ∃ d, s = ((dl c a).1, (dl c a).2, nI a, hs d Gt) ∧ Zc d) _ (c 16 1) ⟨ct, rfl, hZ⟩ (fun a ha s hs1 => Or.inl ?_) (fun s hs1 => ?_) (by omega)
  · obtain ⟨d, rfl, hd⟩ := hs1
    have h1 : ¬ c 16 1 ≤ a := by omega
    simp (disch := omega) only [gi_nI, tn_nI, hs_1, hs_2, hs_3, hs_4, hs_5, hs_6, hs_7, hs_s, hs_m, hs_h, hs_t, lit_nI, nI_add, nI_mul, nI_eq, nI_leI, nI_ltI, nm_j, bd_j, Nat.one_ne_zero, Nat.zero_ne_one, Nat.reduceEqDiff, Nat.reduceLeDiff, Nat.reduceLT, Nat.reduceAdd, Nat.reduceSub, Nat.reduceMul, e10, e01, en1, en2, en3, en4, en6, rq1, rq2, rq3, rq4, rq6, rm1, rm2, rm3, rm4, rm6, fz0, fz1, X5_bound_e, X5_isIn_e, Nat.lt_irrefl, Nat.le_refl, Nat.not_lt_zero, Nat.zero_le, n9a, n9b, n9c, n9d, n9e, n9f, n9g, h1, ↓reduceIte]
    refine lp_in (fun i s => ∃ d, s = ((di c a (dl c a) i).1, (di c a (dl c a) i).2, nI (a + 1 + i), hs d Gt) ∧ Zc d) _ (c 16 1 - (a + 1)) ⟨d, rfl, hd⟩ (fun i hi s hs2 => ?_) (fun s hs2 => ?_) (by omega)
    · obtain ⟨d, rfl, hd⟩ := hs2
      have h2 : ¬ c 16 1 ≤ a + 1 + i := by omega
      have e2 := X4_rhc (Gn := Gn) (Gt := Gt) (k := k) (g := g) (w := w) (z := z) (q := q) hI hG.2.1 hd ha (show a + 1 + i < c 16 1 by omega)
      have b1 := hI.1 7 a
      have b2 := hI.1 7 (a + 1 + i)
      have hZs := Zc_sw hI hG.2.1 ha (show a + 1 + i < c 16 1 by omega)
      by_cases h3 : c 7 a = c 7 (a + 1 + i)
      · rw [di_f (fun z => z.1 h3)]
        refine ⟨_, ⟨sw c a (a + 1 + i), rfl, hZs⟩, fun k nx => ?_⟩
        simp (disch := omega) only [gi_nI, tn_nI, hs_1, hs_2, hs_3, hs_4, hs_5, hs_6, hs_7, hs_s, hs_m, hs_h, hs_t, lit_nI, nI_add, nI_mul, nI_eq, nI_leI, nI_ltI, nm_j, bd_j, Nat.one_ne_zero, Nat.zero_ne_one, Nat.reduceEqDiff, Nat.reduceLeDiff, Nat.reduceLT, Nat.reduceAdd, Nat.reduceSub, Nat.reduceMul, e10, e01, en1, en2, en3, en4, en6, rq1, rq2, rq3, rq4, rq6, rm1, rm2, rm3, rm4, rm6, fz0, fz1, X5_bound_e, X5_isIn_e, Nat.lt_irrefl, Nat.le_refl, Nat.not_lt_zero, Nat.zero_le, n9a, n9b, n9c, n9d, n9e, n9f, n9g, h2, e2, h3, ↓reduceIte]
        rfl
      · by_cases h4 : nI (rcA (sw c a (a + 1 + i))) ≤ (di c a (dl c a) i).2
        · rw [di_f (fun z => z.2 h4)]
          refine ⟨_, ⟨sw c a (a + 1 + i), rfl, hZs⟩, fun k nx => ?_⟩
          simp (disch := omega) only [gi_nI, tn_nI, hs_1, hs_2, hs_3, hs_4, hs_5, hs_6, hs_7, hs_s, hs_m, hs_h, hs_t, lit_nI, nI_add, nI_mul, nI_eq, nI_leI, nI_ltI, nm_j, bd_j, Nat.one_ne_zero, Nat.zero_ne_one, Nat.reduceEqDiff, Nat.reduceLeDiff, Nat.reduceLT, Nat.reduceAdd, Nat.reduceSub, Nat.reduceMul, e10, e01, en1, en2, en3, en4, en6, rq1, rq2, rq3, rq4, rq6, rm1, rm2, rm3, rm4, rm6, fz0, fz1, X5_bound_e, X5_isIn_e, Nat.lt_irrefl, Nat.le_refl, Nat.not_lt_zero, Nat.zero_le, n9a, n9b, n9c, n9d, n9e, n9f, n9g, h2, e2, h3, h4, ↓reduceIte]
          rfl
        · rw [di_t ⟨h3, h4⟩]
          refine ⟨_, ⟨sw c a (a + 1 + i), rfl, hZs⟩, fun k nx => ?_⟩
          simp (disch := omega) only [gi_nI, tn_nI, hs_1, hs_2, hs_3, hs_4, hs_5, hs_6, hs_7, hs_s, hs_m, hs_h, hs_t, lit_nI, nI_add, nI_mul, nI_eq, nI_leI, nI_ltI, nm_j, bd_j, Nat.one_ne_zero, Nat.zero_ne_one, Nat.reduceEqDiff, Nat.reduceLeDiff, Nat.reduceLT, Nat.reduceAdd, Nat.reduceSub, Nat.reduceMul, e10, e01, en1, en2, en3, en4, en6, rq1, rq2, rq3, rq4, rq6, rm1, rm2, rm3, rm4, rm6, fz0, fz1, X5_bound_e, X5_isIn_e, Nat.lt_irrefl, Nat.le_refl, Nat.not_lt_zero, Nat.zero_le, n9a, n9b, n9c, n9d, n9e, n9f, n9g, h2, e2, h3, h4, ↓reduceIte]
          rfl
    · obtain ⟨d, rfl, hd⟩ := hs2
      have h2 : c 16 1 ≤ a + 1 + (c 16 1 - (a + 1)) := by omega
      refine ⟨_, ⟨d, rfl, hd⟩, fun k nx => ?_⟩
      simp (disch := omega) only [gi_nI, tn_nI, hs_1, hs_2, hs_3, hs_4, hs_5, hs_6, hs_7, hs_s, hs_m, hs_h, hs_t, lit_nI, nI_add, nI_mul, nI_eq, nI_leI, nI_ltI, nm_j, bd_j, Nat.one_ne_zero, Nat.zero_ne_one, Nat.reduceEqDiff, Nat.reduceLeDiff, Nat.reduceLT, Nat.reduceAdd, Nat.reduceSub, Nat.reduceMul, e10, e01, en1, en2, en3, en4, en6, rq1, rq2, rq3, rq4, rq6, rm1, rm2, rm3, rm4, rm6, fz0, fz1, X5_bound_e, X5_isIn_e, Nat.lt_irrefl, Nat.le_refl, Nat.not_lt_zero, Nat.zero_le, n9a, n9b, n9c, n9d, n9e, n9f, n9g, h2, ↓reduceIte]
      rfl
  · obtain ⟨d, rfl, hd⟩ := hs1
    refine ⟨_, ⟨d, rfl, hd⟩, fun nx => ?_⟩
    simp (disch := omega) only [gi_nI, tn_nI, hs_1, hs_2, hs_3, hs_4, hs_5, hs_6, hs_7, hs_s, hs_m, hs_h, hs_t, lit_nI, nI_add, nI_mul, nI_eq, nI_leI, nI_ltI, nm_j, bd_j, Nat.one_ne_zero, Nat.zero_ne_one, Nat.reduceEqDiff, Nat.reduceLeDiff, Nat.reduceLT, Nat.reduceAdd, Nat.reduceSub, Nat.reduceMul, e10, e01, en1, en2, en3, en4, en6, rq1, rq2, rq3, rq4, rq6, rm1, rm2, rm3, rm4, rm6, fz0, fz1, X5_bound_e, X5_isIn_e, Nat.lt_irrefl, Nat.le_refl, Nat.not_lt_zero, Nat.zero_le, n9a, n9b, n9c, n9d, n9e, n9f, n9g, ↓reduceIte]
theorem X5_deal {c : G2} {GM : St} (hG : Gd c) : ∃ r, f_X5_deal (hs c GM) = some r ∧ r = ((dl c (c 16 1)).1, hs c GM) := by
  have hI := hG.1
  have hN := hI.2.2.1
  have e1 := X5_canRiseOnes (G := GM) hI
  unfold f_X5_deal
  simp (disch := omega) only [gi_nI, tn_nI, hs_1, hs_2, hs_3, hs_4, hs_5, hs_6, hs_7, hs_s, hs_m, hs_h, hs_t, lit_nI, nI_add, nI_mul, nI_eq, nI_leI, nI_ltI, nm_j, bd_j, Nat.one_ne_zero, Nat.zero_ne_one, Nat.reduceEqDiff, Nat.reduceLeDiff, Nat.reduceLT, Nat.reduceAdd, Nat.reduceSub, Nat.reduceMul, e10, e01, en1, en2, en3, en4, en6, rq1, rq2, rq3, rq4, rq6, rm1, rm2, rm3, rm4, rm6, fz0, fz1, X5_bound_e, X5_isIn_e, Nat.lt_irrefl, Nat.le_refl, Nat.not_lt_zero, Nat.zero_le, n9a, n9b, n9c, n9d, n9e, n9f, n9g, e1, ↓reduceIte]
  refine lp_r (fun a s => s = ((dl c a).1, (dl c a).2, nI a, hs c GM)) _ (c 16 1) rfl (fun a ha s hs1 => Or.inl ?_) (fun s hs1 => ?_) (by omega)
  · subst hs1
    have h1 : ¬ c 16 1 ≤ a := by omega
    simp (disch := omega) only [gi_nI, tn_nI, hs_1, hs_2, hs_3, hs_4, hs_5, hs_6, hs_7, hs_s, hs_m, hs_h, hs_t, lit_nI, nI_add, nI_mul, nI_eq, nI_leI, nI_ltI, nm_j, bd_j, Nat.one_ne_zero, Nat.zero_ne_one, Nat.reduceEqDiff, Nat.reduceLeDiff, Nat.reduceLT, Nat.reduceAdd, Nat.reduceSub, Nat.reduceMul, e10, e01, en1, en2, en3, en4, en6, rq1, rq2, rq3, rq4, rq6, rm1, rm2, rm3, rm4, rm6, fz0, fz1, X5_bound_e, X5_isIn_e, Nat.lt_irrefl, Nat.le_refl, Nat.not_lt_zero, Nat.zero_le, n9a, n9b, n9c, n9d, n9e, n9f, n9g, h1, ↓reduceIte]
    refine lp_in (fun i s => s = ((di c a (dl c a) i).1, (di c a (dl c a) i).2, nI (a + 1 + i), hs c GM)) _ (c 16 1 - (a + 1)) rfl (fun i hi s hs2 => ?_) (fun s hs2 => ?_) (by omega)
    · subst hs2
      have h2 : ¬ c 16 1 ≤ a + 1 + i := by omega
      have e2 := X5_rd (GM := GM) hI ha (show a + 1 + i < c 16 1 by omega) (by omega)
      have b1 := hI.1 7 a
      have b2 := hI.1 7 (a + 1 + i)
      by_cases h3 : c 7 a = c 7 (a + 1 + i)
      · rw [di_f (fun z => z.1 h3)]
        have h4 : ¬ (di c a (dl c a) i).2 < -nI 9 := Int32.not_lt.mpr (di_ge hI ha (dl_ge hI a (by omega)) i (by omega))
        refine ⟨_, rfl, fun k nx => ?_⟩
        simp (disch := omega) only [gi_nI, tn_nI, hs_1, hs_2, hs_3, hs_4, hs_5, hs_6, hs_7, hs_s, hs_m, hs_h, hs_t, lit_nI, nI_add, nI_mul, nI_eq, nI_leI, nI_ltI, nm_j, bd_j, Nat.one_ne_zero, Nat.zero_ne_one, Nat.reduceEqDiff, Nat.reduceLeDiff, Nat.reduceLT, Nat.reduceAdd, Nat.reduceSub, Nat.reduceMul, e10, e01, en1, en2, en3, en4, en6, rq1, rq2, rq3, rq4, rq6, rm1, rm2, rm3, rm4, rm6, fz0, fz1, X5_bound_e, X5_isIn_e, Nat.lt_irrefl, Nat.le_refl, Nat.not_lt_zero, Nat.zero_le, n9a, n9b, n9c, n9d, n9e, n9f, n9g, h2, h3, h4, ↓reduceIte]
        rfl
      · by_cases h4 : nI (rcA (sw c a (a + 1 + i))) ≤ (di c a (dl c a) i).2
        · rw [di_f (fun z => z.2 h4)]
          have h5 : ¬ (di c a (dl c a) i).2 < nI (rcA (sw c a (a + 1 + i))) := Int32.not_lt.mpr h4
          refine ⟨_, rfl, fun k nx => ?_⟩
          simp (disch := omega) only [gi_nI, tn_nI, hs_1, hs_2, hs_3, hs_4, hs_5, hs_6, hs_7, hs_s, hs_m, hs_h, hs_t, lit_nI, nI_add, nI_mul, nI_eq, nI_leI, nI_ltI, nm_j, bd_j, Nat.one_ne_zero, Nat.zero_ne_one, Nat.reduceEqDiff, Nat.reduceLeDiff, Nat.reduceLT, Nat.reduceAdd, Nat.reduceSub, Nat.reduceMul, e10, e01, en1, en2, en3, en4, en6, rq1, rq2, rq3, rq4, rq6, rm1, rm2, rm3, rm4, rm6, fz0, fz1, X5_bound_e, X5_isIn_e, Nat.lt_irrefl, Nat.le_refl, Nat.not_lt_zero, Nat.zero_le, n9a, n9b, n9c, n9d, n9e, n9f, n9g, h2, e2, h3, h5, ↓reduceIte]
          rfl
        · rw [di_t ⟨h3, h4⟩]
          have h5 : (di c a (dl c a) i).2 < nI (rcA (sw c a (a + 1 + i))) := Int32.not_le.mp h4
          refine ⟨_, rfl, fun k nx => ?_⟩
          simp (disch := omega) only [gi_nI, tn_nI, hs_1, hs_2, hs_3, hs_4, hs_5, hs_6, hs_7, hs_s, hs_m, hs_h, hs_t, lit_nI, nI_add, nI_mul, nI_eq, nI_leI, nI_ltI, nm_j, bd_j, Nat.one_ne_zero, Nat.zero_ne_one, Nat.reduceEqDiff, Nat.reduceLeDiff, Nat.reduceLT, Nat.reduceAdd, Nat.reduceSub, Nat.reduceMul, e10, e01, en1, en2, en3, en4, en6, rq1, rq2, rq3, rq4, rq6, rm1, rm2, rm3, rm4, rm6, fz0, fz1, X5_bound_e, X5_isIn_e, Nat.lt_irrefl, Nat.le_refl, Nat.not_lt_zero, Nat.zero_le, n9a, n9b, n9c, n9d, n9e, n9f, n9g, h2, e2, h3, h5, ↓reduceIte]
          rfl
    · subst hs2
      have h2 : c 16 1 ≤ a + 1 + (c 16 1 - (a + 1)) := by omega
      refine ⟨_, rfl, fun k nx => ?_⟩
      simp (disch := omega) only [gi_nI, tn_nI, hs_1, hs_2, hs_3, hs_4, hs_5, hs_6, hs_7, hs_s, hs_m, hs_h, hs_t, lit_nI, nI_add, nI_mul, nI_eq, nI_leI, nI_ltI, nm_j, bd_j, Nat.one_ne_zero, Nat.zero_ne_one, Nat.reduceEqDiff, Nat.reduceLeDiff, Nat.reduceLT, Nat.reduceAdd, Nat.reduceSub, Nat.reduceMul, e10, e01, en1, en2, en3, en4, en6, rq1, rq2, rq3, rq4, rq6, rm1, rm2, rm3, rm4, rm6, fz0, fz1, X5_bound_e, X5_isIn_e, Nat.lt_irrefl, Nat.le_refl, Nat.not_lt_zero, Nat.zero_le, n9a, n9b, n9c, n9d, n9e, n9f, n9g, h2, ↓reduceIte]
      rfl
  · subst hs1
    refine ⟨_, rfl, fun nx => ?_⟩
    simp (disch := omega) only [gi_nI, tn_nI, hs_1, hs_2, hs_3, hs_4, hs_5, hs_6, hs_7, hs_s, hs_m, hs_h, hs_t, lit_nI, nI_add, nI_mul, nI_eq, nI_leI, nI_ltI, nm_j, bd_j, Nat.one_ne_zero, Nat.zero_ne_one, Nat.reduceEqDiff, Nat.reduceLeDiff, Nat.reduceLT, Nat.reduceAdd, Nat.reduceSub, Nat.reduceMul, e10, e01, en1, en2, en3, en4, en6, rq1, rq2, rq3, rq4, rq6, rm1, rm2, rm3, rm4, rm6, fz0, fz1, X5_bound_e, X5_isIn_e, Nat.lt_irrefl, Nat.le_refl, Nat.not_lt_zero, Nat.zero_le, n9a, n9b, n9c, n9d, n9e, n9f, n9g, ↓reduceIte]
theorem r_deal {n t k g w z q M : St} (hR : R n t k g w z q M) : ∃ r t' M', f_X4_deal n t k g w z q = some (r, t') ∧ f_X5_deal M = some (r, M') ∧ R n t' k g w z q M' := by
  obtain ⟨c, ct, kc, Gn, Gt, Gk, GM, rfl, rfl, rfl, rfl, hG, hZ, hK, hS⟩ := hR
  obtain ⟨_, h1, d, rfl, h2⟩ := X4_deal (Gn := Gn) (Gt := Gt) (k := hs kc Gk) (g := g) (w := w) (z := z) (q := q) hG hZ
  obtain ⟨_, h3, rfl⟩ := X5_deal (GM := GM) hG
  exact ⟨_, _, _, h1, h3, c, d, kc, Gn, Gt, Gk, GM, rfl, rfl, rfl, rfl, hG, h2, hK, hS⟩
