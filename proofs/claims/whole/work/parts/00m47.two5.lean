/-! TWO, the reference -/
theorem TF4 {c kc : G2} {g w q GM : St} (hS : Sx kc g w q GM) (hc : Zc c) : ∃ GT, f_X5_thinks (hs c GM) = some (hs c GT) ∧ Sx kc g w q GT ∧ GT 14 = GM 14 ∧ ∀ d, Zc d → ∀ G2, G2 12 = GT 12 → Sx kc g w q G2 → ∃ G', f_X5_forgets (hs d G2) = some (hs c G') ∧ Sx kc g w q G' ∧ G' 14 = G2 14 := by
  obtain ⟨GT, h1, h2, h3⟩ := X5_thinks (c := c) (G := GM)
  refine ⟨GT, h1, hS.sd (Sd.fr (by decide) h3), h3.2.1 14 (by decide) (by decide), fun d hd G2 e s => ?_⟩
  obtain ⟨G', h4, h5, -⟩ := X5_forgets hc hd (Kp_12 h2 e)
  exact ⟨G', h4, s.sd (Sd.fr (by decide) h5), h5.2.1 14 (by decide) (by decide)⟩
theorem X5_tbA {c : G2} {G : St} {a x : Nat} (hI : Iv c) (ha : can c a) (hx : x ≤ 1) : f_X5_toldBy (hs c G) (nI a) (nI x) = some (nI x, hs (tU c a x) G) := by
  have hN := hI.2.2.1
  have ha1 := ha.1
  have e3 := X5_canTell (G := G) hI (show a < 2147483648 by omega)
  rw [if_pos (show a < c 16 1 ∧ 0 < c 6 a ∧ c 3 (c 7 a) = 0 from ha)] at e3
  have e4 := X5_tellsOne (G := G) hI ha.1 ha.2.1
  unfold f_X5_toldBy
  rcases (show x = 0 ∨ x = 1 by omega) with rfl | rfl
  · have hU : tU c a 0 = c := rfl
    rw [hU]
    simp (disch := omega) only [gi_nI, tn_nI, hs_1, hs_2, hs_3, hs_4, hs_5, hs_6, hs_7, hs_s, hs_m, hs_h, hs_t, lit_nI, nI_add, nI_mul, nI_eq, nI_leI, nI_ltI, nm_j, bd_j, Nat.one_ne_zero, Nat.zero_ne_one, Nat.reduceEqDiff, Nat.reduceLeDiff, Nat.reduceLT, Nat.reduceAdd, Nat.reduceSub, Nat.reduceMul, e10, e01, en1, en2, en3, en4, en6, rq1, rq2, rq3, rq4, rq6, rm1, rm2, rm3, rm4, rm6, fz0, fz1, X5_bound_e, X5_isIn_e, Nat.lt_irrefl, Nat.le_refl, Nat.not_lt_zero, Nat.zero_le, n9a, n9b, n9c, n9d, n9e, n9f, n9g, ↓reduceIte]
  · have hU : tU c a 1 = tel c a := rfl
    rw [hU]
    simp (disch := omega) only [gi_nI, tn_nI, hs_1, hs_2, hs_3, hs_4, hs_5, hs_6, hs_7, hs_s, hs_m, hs_h, hs_t, lit_nI, nI_add, nI_mul, nI_eq, nI_leI, nI_ltI, nm_j, bd_j, Nat.one_ne_zero, Nat.zero_ne_one, Nat.reduceEqDiff, Nat.reduceLeDiff, Nat.reduceLT, Nat.reduceAdd, Nat.reduceSub, Nat.reduceMul, e10, e01, en1, en2, en3, en4, en6, rq1, rq2, rq3, rq4, rq6, rm1, rm2, rm3, rm4, rm6, fz0, fz1, X5_bound_e, X5_isIn_e, Nat.lt_irrefl, Nat.le_refl, Nat.not_lt_zero, Nat.zero_le, n9a, n9b, n9c, n9d, n9e, n9f, n9g, e3, e4, ↓reduceIte]
theorem X5_tbB {c : G2} {G : St} {a b x y : Nat} (hI : Iv (tU c a x)) (hb : b < 2147483648) (hy : y ≤ 1) : f_X5_toldBy (hs (tU c a x) G) (nI b) (nI y) = some (@ite _ (tB c a b x y) (tBd c a b x y) (nI 1) (nI 0), hs (tV c a b x y) G) := by
  unfold f_X5_toldBy
  rcases (show y = 0 ∨ y = 1 by omega) with rfl | rfl
  · have hV : tV c a b x 0 = tU c a x := rfl
    rw [hV, if_neg (show ¬ tB c a b x 0 from fun z => absurd z.1 (by decide))]
    simp (disch := omega) only [gi_nI, tn_nI, hs_1, hs_2, hs_3, hs_4, hs_5, hs_6, hs_7, hs_s, hs_m, hs_h, hs_t, lit_nI, nI_add, nI_mul, nI_eq, nI_leI, nI_ltI, nm_j, bd_j, Nat.one_ne_zero, Nat.zero_ne_one, Nat.reduceEqDiff, Nat.reduceLeDiff, Nat.reduceLT, Nat.reduceAdd, Nat.reduceSub, Nat.reduceMul, e10, e01, en1, en2, en3, en4, en6, rq1, rq2, rq3, rq4, rq6, rm1, rm2, rm3, rm4, rm6, fz0, fz1, X5_bound_e, X5_isIn_e, Nat.lt_irrefl, Nat.le_refl, Nat.not_lt_zero, Nat.zero_le, n9a, n9b, n9c, n9d, n9e, n9f, n9g, ↓reduceIte]
  · have hV : tV c a b x 1 = tl (tU c a x) b := rfl
    rw [hV]
    rcases tell_or hI hb with ⟨ht, htt⟩ | ⟨ht, htt⟩
    · have e3 := (htt G).2
      have e4 := X5_tellsOne (G := G) hI ht.1 ht.2.1
      have e5 : tl (tU c a x) b = tel (tU c a x) b := by unfold tl; rw [if_pos ht]
      rw [if_pos (show tB c a b x 1 from ⟨rfl, ht⟩), e5]
      simp (disch := omega) only [gi_nI, tn_nI, hs_1, hs_2, hs_3, hs_4, hs_5, hs_6, hs_7, hs_s, hs_m, hs_h, hs_t, lit_nI, nI_add, nI_mul, nI_eq, nI_leI, nI_ltI, nm_j, bd_j, Nat.one_ne_zero, Nat.zero_ne_one, Nat.reduceEqDiff, Nat.reduceLeDiff, Nat.reduceLT, Nat.reduceAdd, Nat.reduceSub, Nat.reduceMul, e10, e01, en1, en2, en3, en4, en6, rq1, rq2, rq3, rq4, rq6, rm1, rm2, rm3, rm4, rm6, fz0, fz1, X5_bound_e, X5_isIn_e, Nat.lt_irrefl, Nat.le_refl, Nat.not_lt_zero, Nat.zero_le, n9a, n9b, n9c, n9d, n9e, n9f, n9g, e3, e4, ↓reduceIte]
    · have e3 := (htt G).2
      have e5 : tl (tU c a x) b = tU c a x := by unfold tl; rw [if_neg ht]
      rw [if_neg (show ¬ tB c a b x 1 from fun z => ht z.2), e5]
      simp (disch := omega) only [gi_nI, tn_nI, hs_1, hs_2, hs_3, hs_4, hs_5, hs_6, hs_7, hs_s, hs_m, hs_h, hs_t, lit_nI, nI_add, nI_mul, nI_eq, nI_leI, nI_ltI, nm_j, bd_j, Nat.one_ne_zero, Nat.zero_ne_one, Nat.reduceEqDiff, Nat.reduceLeDiff, Nat.reduceLT, Nat.reduceAdd, Nat.reduceSub, Nat.reduceMul, e10, e01, en1, en2, en3, en4, en6, rq1, rq2, rq3, rq4, rq6, rm1, rm2, rm3, rm4, rm6, fz0, fz1, X5_bound_e, X5_isIn_e, Nat.lt_irrefl, Nat.le_refl, Nat.not_lt_zero, Nat.zero_le, n9a, n9b, n9c, n9d, n9e, n9f, n9g, e3, ↓reduceIte]
theorem gN_a {c : G2} {a b x y : Nat} (hx : x ≤ 1) : gN c a a b x y = if tV c a b x y 3 (c 7 a) = 0 then nI 0 - nI x else nI 3 - nI x := by
  unfold gN gn
  rw [if_pos rfl]
  rcases (show x = 0 ∨ x = 1 by omega) with rfl | rfl
  · by_cases h : tV c a b 0 y 3 (c 7 a) = 0
    · rw [if_pos h]
      simp only [h, not_true_eq_false, decide_false, Nat.zero_ne_one, gv_ff]
      simp (disch := omega) only [gi_nI, tn_nI, hs_1, hs_2, hs_3, hs_4, hs_5, hs_6, hs_7, hs_s, hs_m, hs_h, hs_t, lit_nI, nI_add, nI_mul, nI_eq, nI_leI, nI_ltI, nm_j, bd_j, Nat.one_ne_zero, Nat.zero_ne_one, Nat.reduceEqDiff, Nat.reduceLeDiff, Nat.reduceLT, Nat.reduceAdd, Nat.reduceSub, Nat.reduceMul, e10, e01, en1, en2, en3, en4, en6, rq1, rq2, rq3, rq4, rq6, rm1, rm2, rm3, rm4, rm6, fz0, fz1, X5_bound_e, X5_isIn_e, Nat.lt_irrefl, Nat.le_refl, Nat.not_lt_zero, Nat.zero_le, n9a, n9b, n9c, n9d, n9e, n9f, n9g, nI_sub, ↓reduceIte]
    · rw [if_neg h]
      simp only [h, not_false_eq_true, decide_true, Nat.zero_ne_one, decide_false, gv_tf]
      simp (disch := omega) only [gi_nI, tn_nI, hs_1, hs_2, hs_3, hs_4, hs_5, hs_6, hs_7, hs_s, hs_m, hs_h, hs_t, lit_nI, nI_add, nI_mul, nI_eq, nI_leI, nI_ltI, nm_j, bd_j, Nat.one_ne_zero, Nat.zero_ne_one, Nat.reduceEqDiff, Nat.reduceLeDiff, Nat.reduceLT, Nat.reduceAdd, Nat.reduceSub, Nat.reduceMul, e10, e01, en1, en2, en3, en4, en6, rq1, rq2, rq3, rq4, rq6, rm1, rm2, rm3, rm4, rm6, fz0, fz1, X5_bound_e, X5_isIn_e, Nat.lt_irrefl, Nat.le_refl, Nat.not_lt_zero, Nat.zero_le, n9a, n9b, n9c, n9d, n9e, n9f, n9g, nI_sub, ↓reduceIte]
  · by_cases h : tV c a b 1 y 3 (c 7 a) = 0
    · rw [if_pos h]
      simp only [h, not_true_eq_false, decide_false, decide_true, gv_ft]
    · rw [if_neg h]
      simp only [h, not_false_eq_true, decide_true, gv_tt]
theorem gN_b {c : G2} {a b x y : Nat} (hab : ¬ b = a) : gN c b a b x y = if tV c a b x y 3 (c 7 b) = 0 then nI 0 - @ite _ (tB c a b x y) (tBd c a b x y) (nI 1) (nI 0) else nI 3 - @ite _ (tB c a b x y) (tBd c a b x y) (nI 1) (nI 0) := by
  unfold gN gn
  rw [if_neg hab]
  by_cases hB : tB c a b x y
  · rw [if_pos hB]
    by_cases h : tV c a b x y 3 (c 7 b) = 0
    · rw [if_pos h]
      simp only [h, hB, not_true_eq_false, decide_false, decide_true, gv_ft]
    · rw [if_neg h]
      simp only [h, hB, not_false_eq_true, decide_true, gv_tt]
  · rw [if_neg hB]
    by_cases h : tV c a b x y 3 (c 7 b) = 0
    · rw [if_pos h]
      simp only [h, hB, not_true_eq_false, decide_false, gv_ff]
      simp (disch := omega) only [gi_nI, tn_nI, hs_1, hs_2, hs_3, hs_4, hs_5, hs_6, hs_7, hs_s, hs_m, hs_h, hs_t, lit_nI, nI_add, nI_mul, nI_eq, nI_leI, nI_ltI, nm_j, bd_j, Nat.one_ne_zero, Nat.zero_ne_one, Nat.reduceEqDiff, Nat.reduceLeDiff, Nat.reduceLT, Nat.reduceAdd, Nat.reduceSub, Nat.reduceMul, e10, e01, en1, en2, en3, en4, en6, rq1, rq2, rq3, rq4, rq6, rm1, rm2, rm3, rm4, rm6, fz0, fz1, X5_bound_e, X5_isIn_e, Nat.lt_irrefl, Nat.le_refl, Nat.not_lt_zero, Nat.zero_le, n9a, n9b, n9c, n9d, n9e, n9f, n9g, nI_sub, ↓reduceIte]
    · rw [if_neg h]
      simp only [h, hB, not_false_eq_true, decide_true, decide_false, gv_tf]
      simp (disch := omega) only [gi_nI, tn_nI, hs_1, hs_2, hs_3, hs_4, hs_5, hs_6, hs_7, hs_s, hs_m, hs_h, hs_t, lit_nI, nI_add, nI_mul, nI_eq, nI_leI, nI_ltI, nm_j, bd_j, Nat.one_ne_zero, Nat.zero_ne_one, Nat.reduceEqDiff, Nat.reduceLeDiff, Nat.reduceLT, Nat.reduceAdd, Nat.reduceSub, Nat.reduceMul, e10, e01, en1, en2, en3, en4, en6, rq1, rq2, rq3, rq4, rq6, rm1, rm2, rm3, rm4, rm6, fz0, fz1, X5_bound_e, X5_isIn_e, Nat.lt_irrefl, Nat.le_refl, Nat.not_lt_zero, Nat.zero_le, n9a, n9b, n9c, n9d, n9e, n9f, n9g, nI_sub, ↓reduceIte]
theorem X5_fg {c kc : G2} {GM g w q : St} {a b : Nat} (hG : Gd c) (hS : Sx kc g w q GM) (ha : can c a) (hb : b < c 16 1) (hab : ¬ b = a) : ∃ r, f_X5_findGets (hs c GM) (nI a) (nI b) = some r ∧ ∃ G', r = hs c G' ∧ Sx kc g w q G' ∧ ∀ i, i < 4 → G' 14 (2 * i) = gN c a a b (i / 2) (i % 2) ∧ G' 14 (2 * i + 1) = gN c b a b (i / 2) (i % 2) := by
  have hI := hG.1
  have hN := hI.2.2.1
  have hN5 := hI.2.1
  have ha1 := ha.1
  have h7a := hI.2.2.2.2 a ha1
  have h7b := hI.2.2.2.2 b hb
  unfold f_X5_findGets
  refine lp_r (fun j s => ∃ G', s = (nI j, hs c G') ∧ Sx kc g w q G' ∧ ∀ i, i < j → G' 14 (2 * i) = gN c a a b (i / 2) (i % 2) ∧ G' 14 (2 * i + 1) = gN c b a b (i / 2) (i % 2)) _ 4 ⟨GM, rfl, hS, fun i hi => absurd hi (Nat.not_lt_zero _)⟩ (fun j hj s hs1 => Or.inl ?_) (fun s hs1 => ?_) (by decide)
  · obtain ⟨G, rfl, hSG, hg⟩ := hs1
    have h1 : ¬ 4 ≤ j := by omega
    have hx : j / 2 ≤ 1 := by omega
    have hy : j % 2 ≤ 1 := by omega
    obtain ⟨GT, t1, t2, t3, t4⟩ := TF4 hSG hG.2.1
    have hHU := Hd_tU (x := j / 2) hG.hd ha1
    have hHV := Hd_tV (b := b) (x := j / 2) (y := j % 2) hG.hd ha1
    have e1 := X5_tbA (G := GT) hI ha hx
    have e2 := X5_tbB (G := GT) (b := b) (y := j % 2) hHU.1 (by omega) hy
    have b3a := hHV.1.1 3 (c 7 a)
    have b3b := hHV.1.1 3 (c 7 b)
    have e7a : tV c a b (j / 2) (j % 2) 7 a = c 7 a := tV_7
    have e7b : tV c a b (j / 2) (j % 2) 7 b = c 7 b := tV_7
    have ga := gN_a (c := c) (a := a) (b := b) (y := j % 2) hx
    have gb := gN_b (c := c) (a := a) (b := b) (x := j / 2) (y := j % 2) hab
    generalize hX : @ite Int32 (tB c a b (j / 2) (j % 2)) (tBd c a b (j / 2) (j % 2)) (nI 1) (nI 0) = X at e2 gb
    obtain ⟨G2', hG2⟩ : ∃ G2', G2' = su (su GT 14 (2 * j) (gN c a a b (j / 2) (j % 2))) 14 (2 * j + 1) (gN c b a b (j / 2) (j % 2)) := ⟨_, rfl⟩
    have u1 : ∀ v, su (hs (tV c a b (j / 2) (j % 2)) GT) 14 (2 * j) v = hs (tV c a b (j / 2) (j % 2)) (su GT 14 (2 * j) v) := fun v => su_hso (by decide) (by decide)
    have u2 : ∀ v u, su (hs (tV c a b (j / 2) (j % 2)) (su GT 14 (2 * j) v)) 14 (2 * j + 1) u = hs (tV c a b (j / 2) (j % 2)) (su (su GT 14 (2 * j) v) 14 (2 * j + 1) u) := fun v u => su_hso (by decide) (by decide)
    have s2 : Sx kc g w q G2' := by rw [hG2]; exact (t2.s1 (Or.inr rfl)).s1 (Or.inr rfl)
    have s12 : G2' 12 = GT 12 := by
      rw [hG2]
      funext k
      rw [su_ne (by omega), su_ne (by omega)]
    obtain ⟨G', f1, f2, f3⟩ := t4 _ hHV.2.1 G2' s12 s2
    rw [hG2] at f1
    refine ⟨_, ⟨G', rfl, f2, fun i hi => ?_⟩, fun nx => ?_⟩
    · rw [f3, hG2]
      by_cases hij : i = j
      · subst hij
        rw [su_ne (by omega), su_at, su_at]
        exact ⟨rfl, rfl⟩
      · rw [su_ne (by omega), su_ne (by omega), su_ne (by omega), su_ne (by omega), t3]
        exact hg i (by omega)
    · by_cases oa : tV c a b (j / 2) (j % 2) 3 (c 7 a) = 0
      · rw [if_pos oa] at ga
        by_cases ob : tV c a b (j / 2) (j % 2) 3 (c 7 b) = 0
        · rw [if_pos ob] at gb
          rw [ga, gb] at f1
          simp (disch := omega) only [gi_nI, tn_nI, hs_1, hs_2, hs_3, hs_4, hs_5, hs_6, hs_7, hs_s, hs_m, hs_h, hs_t, lit_nI, nI_add, nI_mul, nI_eq, nI_leI, nI_ltI, nm_j, bd_j, Nat.one_ne_zero, Nat.zero_ne_one, Nat.reduceEqDiff, Nat.reduceLeDiff, Nat.reduceLT, Nat.reduceAdd, Nat.reduceSub, Nat.reduceMul, e10, e01, en1, en2, en3, en4, en6, rq1, rq2, rq3, rq4, rq6, rm1, rm2, rm3, rm4, rm6, fz0, fz1, X5_bound_e, X5_isIn_e, Nat.lt_irrefl, Nat.le_refl, Nat.not_lt_zero, Nat.zero_le, n9a, n9b, n9c, n9d, n9e, n9f, n9g, h1, t1, nI_div, nI_md, e1, e2, e7a, oa, u1, e7b, ob, u2, f1, ↓reduceIte]
        · rw [if_neg ob] at gb
          rw [ga, gb] at f1
          have ob2 : ¬ tV c a b (j / 2) (j % 2) 3 (c 7 b) ≤ 0 := by omega
          simp (disch := omega) only [gi_nI, tn_nI, hs_1, hs_2, hs_3, hs_4, hs_5, hs_6, hs_7, hs_s, hs_m, hs_h, hs_t, lit_nI, nI_add, nI_mul, nI_eq, nI_leI, nI_ltI, nm_j, bd_j, Nat.one_ne_zero, Nat.zero_ne_one, Nat.reduceEqDiff, Nat.reduceLeDiff, Nat.reduceLT, Nat.reduceAdd, Nat.reduceSub, Nat.reduceMul, e10, e01, en1, en2, en3, en4, en6, rq1, rq2, rq3, rq4, rq6, rm1, rm2, rm3, rm4, rm6, fz0, fz1, X5_bound_e, X5_isIn_e, Nat.lt_irrefl, Nat.le_refl, Nat.not_lt_zero, Nat.zero_le, n9a, n9b, n9c, n9d, n9e, n9f, n9g, h1, t1, nI_div, nI_md, e1, e2, e7a, oa, u1, e7b, ob2, u2, f1, ↓reduceIte]
      · rw [if_neg oa] at ga
        have oa2 : ¬ tV c a b (j / 2) (j % 2) 3 (c 7 a) ≤ 0 := by omega
        by_cases ob : tV c a b (j / 2) (j % 2) 3 (c 7 b) = 0
        · rw [if_pos ob] at gb
          rw [ga, gb] at f1
          simp (disch := omega) only [gi_nI, tn_nI, hs_1, hs_2, hs_3, hs_4, hs_5, hs_6, hs_7, hs_s, hs_m, hs_h, hs_t, lit_nI, nI_add, nI_mul, nI_eq, nI_leI, nI_ltI, nm_j, bd_j, Nat.one_ne_zero, Nat.zero_ne_one, Nat.reduceEqDiff, Nat.reduceLeDiff, Nat.reduceLT, Nat.reduceAdd, Nat.reduceSub, Nat.reduceMul, e10, e01, en1, en2, en3, en4, en6, rq1, rq2, rq3, rq4, rq6, rm1, rm2, rm3, rm4, rm6, fz0, fz1, X5_bound_e, X5_isIn_e, Nat.lt_irrefl, Nat.le_refl, Nat.not_lt_zero, Nat.zero_le, n9a, n9b, n9c, n9d, n9e, n9f, n9g, h1, t1, nI_div, nI_md, e1, e2, e7a, oa2, u1, e7b, ob, u2, f1, ↓reduceIte]
        · rw [if_neg ob] at gb
          rw [ga, gb] at f1
          have ob2 : ¬ tV c a b (j / 2) (j % 2) 3 (c 7 b) ≤ 0 := by omega
          simp (disch := omega) only [gi_nI, tn_nI, hs_1, hs_2, hs_3, hs_4, hs_5, hs_6, hs_7, hs_s, hs_m, hs_h, hs_t, lit_nI, nI_add, nI_mul, nI_eq, nI_leI, nI_ltI, nm_j, bd_j, Nat.one_ne_zero, Nat.zero_ne_one, Nat.reduceEqDiff, Nat.reduceLeDiff, Nat.reduceLT, Nat.reduceAdd, Nat.reduceSub, Nat.reduceMul, e10, e01, en1, en2, en3, en4, en6, rq1, rq2, rq3, rq4, rq6, rm1, rm2, rm3, rm4, rm6, fz0, fz1, X5_bound_e, X5_isIn_e, Nat.lt_irrefl, Nat.le_refl, Nat.not_lt_zero, Nat.zero_le, n9a, n9b, n9c, n9d, n9e, n9f, n9g, h1, t1, nI_div, nI_md, e1, e2, e7a, oa2, u1, e7b, ob2, u2, f1, ↓reduceIte]
  · obtain ⟨G, rfl, hSG, hg⟩ := hs1
    refine ⟨_, ⟨G, rfl, hSG, hg⟩, fun nx => ?_⟩
    simp (disch := omega) only [gi_nI, tn_nI, hs_1, hs_2, hs_3, hs_4, hs_5, hs_6, hs_7, hs_s, hs_m, hs_h, hs_t, lit_nI, nI_add, nI_mul, nI_eq, nI_leI, nI_ltI, nm_j, bd_j, Nat.one_ne_zero, Nat.zero_ne_one, Nat.reduceEqDiff, Nat.reduceLeDiff, Nat.reduceLT, Nat.reduceAdd, Nat.reduceSub, Nat.reduceMul, e10, e01, en1, en2, en3, en4, en6, rq1, rq2, rq3, rq4, rq6, rm1, rm2, rm3, rm4, rm6, fz0, fz1, X5_bound_e, X5_isIn_e, Nat.lt_irrefl, Nat.le_refl, Nat.not_lt_zero, Nat.zero_le, n9a, n9b, n9c, n9d, n9e, n9f, n9g, ↓reduceIte]
theorem x02 : nI 0 ^^^ nI 2 = nI 2 := by decide +kernel
theorem x12 : nI 1 ^^^ nI 2 = nI 3 := by decide +kernel
theorem x22 : nI 2 ^^^ nI 2 = nI 0 := by decide +kernel
theorem x32 : nI 3 ^^^ nI 2 = nI 1 := by decide +kernel
theorem x01 : nI 0 ^^^ nI 1 = nI 1 := by decide +kernel
theorem x11 : nI 1 ^^^ nI 1 = nI 0 := by decide +kernel
theorem x21 : nI 2 ^^^ nI 1 = nI 3 := by decide +kernel
theorem x31 : nI 3 ^^^ nI 1 = nI 2 := by decide +kernel
theorem X5_two {c kc : G2} {GM g w q : St} {a b : Nat} (hG : Gd c) (hS : Sx kc g w q GM) (ha : can c a) (hb : can c b) (hab : a ≠ b) {v : Int32} (hv : (sT c a b 0 0 ∧ v = nI 0) ∨ (¬ sT c a b 0 0 ∧ sT c a b 0 1 ∧ v = nI 1) ∨ (¬ sT c a b 0 0 ∧ ¬ sT c a b 0 1 ∧ sT c a b 1 0 ∧ v = nI 10) ∨ (¬ sT c a b 0 0 ∧ ¬ sT c a b 0 1 ∧ ¬ sT c a b 1 0 ∧ sT c a b 1 1 ∧ v = nI 11) ∨ (¬ sT c a b 0 0 ∧ ¬ sT c a b 0 1 ∧ ¬ sT c a b 1 0 ∧ ¬ sT c a b 1 1 ∧ v = -nI 9)) : ∃ G', f_X5_two (hs c GM) (nI a) (nI b) = some (v, hs c G') ∧ Sx kc g w q G' := by
  have hI := hG.1
  have hN := hI.2.2.1
  have ha1 := ha.1
  have hb1 := hb.1
  have e1 := X5_isMan (G := GM) hI (show a < 2147483648 by omega)
  have e2 := X5_isMan (G := GM) hI (show b < 2147483648 by omega)
  rw [if_pos ha1] at e1
  rw [if_pos hb1] at e2
  have e3 := X5_canTell (G := GM) hI (show a < 2147483648 by omega)
  have e4 := X5_canTell (G := GM) hI (show b < 2147483648 by omega)
  rw [if_pos (show a < c 16 1 ∧ 0 < c 6 a ∧ c 3 (c 7 a) = 0 from ha)] at e3
  rw [if_pos (show b < c 16 1 ∧ 0 < c 6 b ∧ c 3 (c 7 b) = 0 from hb)] at e4
  obtain ⟨_, e5, G', rfl, s1, hg⟩ := X5_fg hG hS ha hb1 (fun e => hab e.symm)
  refine ⟨G', ?_, s1⟩
  have k0 := hg 0 (by decide)
  have k1 := hg 1 (by decide)
  have k2 := hg 2 (by decide)
  have k3 := hg 3 (by decide)
  have r : ∀ i, hs c G' 14 i = G' 14 i := fun i => by rw [hs_o (by decide) (by decide)]
  have r0 : hs c G' 14 0 = gN c a a b 0 0 := (r 0).trans k0.1
  have r1 : hs c G' 14 1 = gN c b a b 0 0 := (r 1).trans k0.2
  have r2 : hs c G' 14 2 = gN c a a b 0 1 := (r 2).trans k1.1
  have r3 : hs c G' 14 3 = gN c b a b 0 1 := (r 3).trans k1.2
  have r4 : hs c G' 14 4 = gN c a a b 1 0 := (r 4).trans k2.1
  have r5 : hs c G' 14 5 = gN c b a b 1 0 := (r 5).trans k2.2
  have r6 : hs c G' 14 6 = gN c a a b 1 1 := (r 6).trans k3.1
  have r7 : hs c G' 14 7 = gN c b a b 1 1 := (r 7).trans k3.2
  unfold f_X5_two
  simp (disch := omega) only [gi_nI, tn_nI, hs_1, hs_2, hs_3, hs_4, hs_5, hs_6, hs_7, hs_s, hs_m, hs_h, hs_t, lit_nI, nI_add, nI_mul, nI_eq, nI_leI, nI_ltI, nm_j, bd_j, Nat.one_ne_zero, Nat.zero_ne_one, Nat.reduceEqDiff, Nat.reduceLeDiff, Nat.reduceLT, Nat.reduceAdd, Nat.reduceSub, Nat.reduceMul, e10, e01, en1, en2, en3, en4, en6, rq1, rq2, rq3, rq4, rq6, rm1, rm2, rm3, rm4, rm6, fz0, fz1, X5_bound_e, X5_isIn_e, Nat.lt_irrefl, Nat.le_refl, Nat.not_lt_zero, Nat.zero_le, n9a, n9b, n9c, n9d, n9e, n9f, n9g, e1, e2, e3, e4, hab, e5, ↓reduceIte]
  unfold sT at hv
  simp only [Nat.sub_zero, Nat.sub_self] at hv
  have q10 : nI 1 / nI 2 = nI 0 := by decide +kernel
  have q20 : nI 2 / nI 2 = nI 1 := by decide +kernel
  have q30 : nI 3 / nI 2 = nI 1 := by decide +kernel
  have q00 : nI 0 / nI 2 = nI 0 := by decide +kernel
  by_cases a0 : gN c a a b 0 0 < gN c a a b 1 0 <;> by_cases b0 : gN c b a b 0 0 < gN c b a b 0 1 <;> by_cases a1 : gN c a a b 0 1 < gN c a a b 1 1 <;> by_cases b1 : gN c b a b 0 1 < gN c b a b 0 0 <;> by_cases a2 : gN c a a b 1 0 < gN c a a b 0 0 <;> by_cases b2 : gN c b a b 1 0 < gN c b a b 1 1 <;> by_cases a3 : gN c a a b 1 1 < gN c a a b 0 1 <;> by_cases b3 : gN c b a b 1 1 < gN c b a b 1 0 <;> simp only [a0, b0, a1, b1, a2, b2, a3, b3, not_true_eq_false, not_false_eq_true, and_self, and_false, false_and, true_and, false_or, or_false, and_true] at hv <;> subst hv <;> simp (disch := omega) only [gi_nI, tn_nI, hs_1, hs_2, hs_3, hs_4, hs_5, hs_6, hs_7, hs_s, hs_m, hs_h, hs_t, lit_nI, nI_add, nI_mul, nI_eq, nI_leI, nI_ltI, nm_j, bd_j, Nat.one_ne_zero, Nat.zero_ne_one, Nat.reduceEqDiff, Nat.reduceLeDiff, Nat.reduceLT, Nat.reduceAdd, Nat.reduceSub, Nat.reduceMul, e10, e01, en1, en2, en3, en4, en6, rq1, rq2, rq3, rq4, rq6, rm1, rm2, rm3, rm4, rm6, fz0, fz1, X5_bound_e, X5_isIn_e, Nat.lt_irrefl, Nat.le_refl, Nat.not_lt_zero, Nat.zero_le, n9a, n9b, n9c, n9d, n9e, n9f, n9g, lp_u0, lp_u1, lp_u2, lp_u3, lp_u4, x02, x12, x22, x32, x01, x11, x21, x31, r0, r1, r2, r3, r4, r5, r6, r7, a0, b0, a1, b1, a2, b2, a3, b3, q10, q20, q30, q00, nI_sub, ↓reduceIte]
