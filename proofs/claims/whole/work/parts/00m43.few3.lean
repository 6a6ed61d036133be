/-! FEWEST, CHEAPEST, WHEN: the calls -/
theorem r_fewest {n t k g w z q M : St} (hR : R n t k g w z q M) (p1 p2 : Int32) : ∃ r n' q' M', f_X4_fewest n t k g w z q p1 p2 = some (r, n', q') ∧ f_X5_fewest M p1 p2 = some (r, M') ∧ R n' t k g w z q' M' := by
  have hQ := hR
  unfold f_X4_fewest f_X5_fewest
  obtain ⟨c, ct, kc, Gn, Gt, Gk, GM, rfl, rfl, rfl, rfl, hG, hZ, hK, hS⟩ := hR
  have hI := hG.1
  have hN := hI.2.1
  rcases ship_or hI p1 with ⟨m, hm, rfl⟩ | hn
  · have e1 := X0_hasShip (G := Gn) hI (show m < 2147483648 by omega)
    have e2 := X5_isShip (G := GM) hI (show m < 2147483648 by omega)
    rw [if_pos hm] at e1 e2
    have hm5 : m < 5 := by omega
    have e3 := X0_isIn (G := Gn) hI hm5
    have b3 := hI.1 3 m
    have e4 := X0_fewestWords (G := Gn) hI hG.2.2.2.2 hm5
    have e5 := X5_fewestOf (G := GM) hI hG.2.2.2.2 hm5
    have e6 := X0_most (G := Gn) (a := (FW c m).2) hI (fun k => FW_ok)
    have e7 := X5_most (G := GM) (a := (FW c m).2) hI (fun k => FW_ok)
    have fin : ∀ r, f_X4_fewest (hs c Gn) (hs ct Gt) (hs kc Gk) g w z q (nI m) p2 = some (r, hs c (aj Gn 8 (FW c m).2), q) → True := fun _ _ => trivial
    rcases wh01 p2 with rfl | rfl | ⟨w1, w2, w3⟩
    · by_cases h3 : c 3 m = 0
      · rw [if_pos h3] at e3
        refine ⟨(FW c m).1, hs c (aj Gn 8 (FW c m).2), q, hs c (aj GM 8 (FW c m).2), ?_, ?_, c, ct, kc, _, Gt, Gk, _, rfl, rfl, rfl, rfl, hG, hZ, hK, hS.aj⟩
        · simp (disch := omega) only [gi_nI, tn_nI, hs_1, hs_2, hs_3, hs_4, hs_5, hs_6, hs_7, hs_s, hs_m, hs_h, hs_t, lit_nI, nI_add, nI_mul, nI_eq, nI_leI, nI_ltI, nm_i, bd_s, Nat.one_ne_zero, Nat.zero_ne_one, Nat.reduceEqDiff, Nat.reduceLeDiff, Nat.reduceLT, Nat.reduceAdd, Nat.reduceSub, Nat.reduceMul, e10, e01, en1, en2, en3, en4, en6, rq1, rq2, rq3, rq4, rq6, rm1, rm2, rm3, rm4, rm6, fz0, fz1, X5_bound_e, X5_isIn_e, Nat.lt_irrefl, Nat.le_refl, Nat.not_lt_zero, Nat.zero_le, n9a, n9b, n9c, n9d, n9e, n9f, n9g, e1, e3, e4, ↓reduceIte]
        · simp (disch := omega) only [gi_nI, tn_nI, hs_1, hs_2, hs_3, hs_4, hs_5, hs_6, hs_7, hs_s, hs_m, hs_h, hs_t, lit_nI, nI_add, nI_mul, nI_eq, nI_leI, nI_ltI, nm_i, bd_s, Nat.one_ne_zero, Nat.zero_ne_one, Nat.reduceEqDiff, Nat.reduceLeDiff, Nat.reduceLT, Nat.reduceAdd, Nat.reduceSub, Nat.reduceMul, e10, e01, en1, en2, en3, en4, en6, rq1, rq2, rq3, rq4, rq6, rm1, rm2, rm3, rm4, rm6, fz0, fz1, X5_bound_e, X5_isIn_e, Nat.lt_irrefl, Nat.le_refl, Nat.not_lt_zero, Nat.zero_le, n9a, n9b, n9c, n9d, n9e, n9f, n9g, e2, h3, e5, ↓reduceIte]
      · rw [if_neg h3] at e3
        refine ⟨-nI 3, _, rf q 3, rf (hs c GM) 3, ?_, ?_, hQ.ref 3⟩
        · simp (disch := omega) only [gi_nI, tn_nI, hs_1, hs_2, hs_3, hs_4, hs_5, hs_6, hs_7, hs_s, hs_m, hs_h, hs_t, lit_nI, nI_add, nI_mul, nI_eq, nI_leI, nI_ltI, nm_i, bd_s, Nat.one_ne_zero, Nat.zero_ne_one, Nat.reduceEqDiff, Nat.reduceLeDiff, Nat.reduceLT, Nat.reduceAdd, Nat.reduceSub, Nat.reduceMul, e10, e01, en1, en2, en3, en4, en6, rq1, rq2, rq3, rq4, rq6, rm1, rm2, rm3, rm4, rm6, fz0, fz1, X5_bound_e, X5_isIn_e, Nat.lt_irrefl, Nat.le_refl, Nat.not_lt_zero, Nat.zero_le, n9a, n9b, n9c, n9d, n9e, n9f, n9g, e1, e3, ↓reduceIte]
        · have h4 : ¬ c 3 m ≤ 0 := by omega
          simp (disch := omega) only [gi_nI, tn_nI, hs_1, hs_2, hs_3, hs_4, hs_5, hs_6, hs_7, hs_s, hs_m, hs_h, hs_t, lit_nI, nI_add, nI_mul, nI_eq, nI_leI, nI_ltI, nm_i, bd_s, Nat.one_ne_zero, Nat.zero_ne_one, Nat.reduceEqDiff, Nat.reduceLeDiff, Nat.reduceLT, Nat.reduceAdd, Nat.reduceSub, Nat.reduceMul, e10, e01, en1, en2, en3, en4, en6, rq1, rq2, rq3, rq4, rq6, rm1, rm2, rm3, rm4, rm6, fz0, fz1, X5_bound_e, X5_isIn_e, Nat.lt_irrefl, Nat.le_refl, Nat.not_lt_zero, Nat.zero_le, n9a, n9b, n9c, n9d, n9e, n9f, n9g, e2, h4, ↓reduceIte]
    · by_cases h3 : c 3 m = 0
      · rw [if_pos h3] at e3
        by_cases hl : lck c m = 0
        · have hF := FW_0 hl
          rw [hF] at e4 e5 e6 e7
          dsimp only at e4 e5 e6 e7
          have hd : dA (fun _ => 0) (c 16 1) = -nI 9 := by
            unfold dA
            rw [if_pos (dm_0 _ (fun _ _ => rfl))]
          rw [hd] at e6
          refine ⟨-nI 9, hs c (aj Gn 8 (fun _ => 0)), q, hs c (aj GM 8 (fun _ => 0)), ?_, ?_, c, ct, kc, _, Gt, Gk, _, rfl, rfl, rfl, rfl, hG, hZ, hK, hS.aj⟩
          · simp (disch := omega) only [gi_nI, tn_nI, hs_1, hs_2, hs_3, hs_4, hs_5, hs_6, hs_7, hs_s, hs_m, hs_h, hs_t, lit_nI, nI_add, nI_mul, nI_eq, nI_leI, nI_ltI, nm_i, bd_s, Nat.one_ne_zero, Nat.zero_ne_one, Nat.reduceEqDiff, Nat.reduceLeDiff, Nat.reduceLT, Nat.reduceAdd, Nat.reduceSub, Nat.reduceMul, e10, e01, en1, en2, en3, en4, en6, rq1, rq2, rq3, rq4, rq6, rm1, rm2, rm3, rm4, rm6, fz0, fz1, X5_bound_e, X5_isIn_e, Nat.lt_irrefl, Nat.le_refl, Nat.not_lt_zero, Nat.zero_le, n9a, n9b, n9c, n9d, n9e, n9f, n9g, e1, e3, e4, e6, ↓reduceIte]
          · simp (disch := omega) only [gi_nI, tn_nI, hs_1, hs_2, hs_3, hs_4, hs_5, hs_6, hs_7, hs_s, hs_m, hs_h, hs_t, lit_nI, nI_add, nI_mul, nI_eq, nI_leI, nI_ltI, nm_i, bd_s, Nat.one_ne_zero, Nat.zero_ne_one, Nat.reduceEqDiff, Nat.reduceLeDiff, Nat.reduceLT, Nat.reduceAdd, Nat.reduceSub, Nat.reduceMul, e10, e01, en1, en2, en3, en4, en6, rq1, rq2, rq3, rq4, rq6, rm1, rm2, rm3, rm4, rm6, fz0, fz1, X5_bound_e, X5_isIn_e, Nat.lt_irrefl, Nat.le_refl, Nat.not_lt_zero, Nat.zero_le, n9a, n9b, n9c, n9d, n9e, n9f, n9g, e2, h3, e5, ↓reduceIte]
        · rcases FW_or (c := c) (s := m) with hF | ⟨k, hk1, hk2, hF⟩
          · rw [hF] at e4 e5
            refine ⟨-nI 9, hs c (aj Gn 8 (FW c m).2), q, hs c (aj GM 8 (FW c m).2), ?_, ?_, c, ct, kc, _, Gt, Gk, _, rfl, rfl, rfl, rfl, hG, hZ, hK, hS.aj⟩
            · simp (disch := omega) only [gi_nI, tn_nI, hs_1, hs_2, hs_3, hs_4, hs_5, hs_6, hs_7, hs_s, hs_m, hs_h, hs_t, lit_nI, nI_add, nI_mul, nI_eq, nI_leI, nI_ltI, nm_i, bd_s, Nat.one_ne_zero, Nat.zero_ne_one, Nat.reduceEqDiff, Nat.reduceLeDiff, Nat.reduceLT, Nat.reduceAdd, Nat.reduceSub, Nat.reduceMul, e10, e01, en1, en2, en3, en4, en6, rq1, rq2, rq3, rq4, rq6, rm1, rm2, rm3, rm4, rm6, fz0, fz1, X5_bound_e, X5_isIn_e, Nat.lt_irrefl, Nat.le_refl, Nat.not_lt_zero, Nat.zero_le, n9a, n9b, n9c, n9d, n9e, n9f, n9g, e1, e3, e4, ↓reduceIte]
            · have n0m : ¬ (nI 0 < -nI 9) := by decide +kernel
              simp (disch := omega) only [gi_nI, tn_nI, hs_1, hs_2, hs_3, hs_4, hs_5, hs_6, hs_7, hs_s, hs_m, hs_h, hs_t, lit_nI, nI_add, nI_mul, nI_eq, nI_leI, nI_ltI, nm_i, bd_s, Nat.one_ne_zero, Nat.zero_ne_one, Nat.reduceEqDiff, Nat.reduceLeDiff, Nat.reduceLT, Nat.reduceAdd, Nat.reduceSub, Nat.reduceMul, e10, e01, en1, en2, en3, en4, en6, rq1, rq2, rq3, rq4, rq6, rm1, rm2, rm3, rm4, rm6, fz0, fz1, X5_bound_e, X5_isIn_e, Nat.lt_irrefl, Nat.le_refl, Nat.not_lt_zero, Nat.zero_le, n9a, n9b, n9c, n9d, n9e, n9f, n9g, e2, h3, e5, n0m, ↓reduceIte]
          · rw [hF] at e4 e5
            have hk0 : 0 < k := hk2 (by omega)
            refine ⟨dA (FW c m).2 (c 16 1), hs c (aj Gn 8 (FW c m).2), q, hs c (aj GM 8 (FW c m).2), ?_, ?_, c, ct, kc, _, Gt, Gk, _, rfl, rfl, rfl, rfl, hG, hZ, hK, hS.aj⟩
            · simp (disch := omega) only [gi_nI, tn_nI, hs_1, hs_2, hs_3, hs_4, hs_5, hs_6, hs_7, hs_s, hs_m, hs_h, hs_t, lit_nI, nI_add, nI_mul, nI_eq, nI_leI, nI_ltI, nm_i, bd_s, Nat.one_ne_zero, Nat.zero_ne_one, Nat.reduceEqDiff, Nat.reduceLeDiff, Nat.reduceLT, Nat.reduceAdd, Nat.reduceSub, Nat.reduceMul, e10, e01, en1, en2, en3, en4, en6, rq1, rq2, rq3, rq4, rq6, rm1, rm2, rm3, rm4, rm6, fz0, fz1, X5_bound_e, X5_isIn_e, Nat.lt_irrefl, Nat.le_refl, Nat.not_lt_zero, Nat.zero_le, n9a, n9b, n9c, n9d, n9e, n9f, n9g, e1, e3, e4, e6, ↓reduceIte]
            · simp (disch := omega) only [gi_nI, tn_nI, hs_1, hs_2, hs_3, hs_4, hs_5, hs_6, hs_7, hs_s, hs_m, hs_h, hs_t, lit_nI, nI_add, nI_mul, nI_eq, nI_leI, nI_ltI, nm_i, bd_s, Nat.one_ne_zero, Nat.zero_ne_one, Nat.reduceEqDiff, Nat.reduceLeDiff, Nat.reduceLT, Nat.reduceAdd, Nat.reduceSub, Nat.reduceMul, e10, e01, en1, en2, en3, en4, en6, rq1, rq2, rq3, rq4, rq6, rm1, rm2, rm3, rm4, rm6, fz0, fz1, X5_bound_e, X5_isIn_e, Nat.lt_irrefl, Nat.le_refl, Nat.not_lt_zero, Nat.zero_le, n9a, n9b, n9c, n9d, n9e, n9f, n9g, e2, h3, e5, hk0, e7, ↓reduceIte]
      · rw [if_neg h3] at e3
        refine ⟨-nI 3, _, rf q 3, rf (hs c GM) 3, ?_, ?_, hQ.ref 3⟩
        · simp (disch := omega) only [gi_nI, tn_nI, hs_1, hs_2, hs_3, hs_4, hs_5, hs_6, hs_7, hs_s, hs_m, hs_h, hs_t, lit_nI, nI_add, nI_mul, nI_eq, nI_leI, nI_ltI, nm_i, bd_s, Nat.one_ne_zero, Nat.zero_ne_one, Nat.reduceEqDiff, Nat.reduceLeDiff, Nat.reduceLT, Nat.reduceAdd, Nat.reduceSub, Nat.reduceMul, e10, e01, en1, en2, en3, en4, en6, rq1, rq2, rq3, rq4, rq6, rm1, rm2, rm3, rm4, rm6, fz0, fz1, X5_bound_e, X5_isIn_e, Nat.lt_irrefl, Nat.le_refl, Nat.not_lt_zero, Nat.zero_le, n9a, n9b, n9c, n9d, n9e, n9f, n9g, e1, e3, ↓reduceIte]
        · have h4 : ¬ c 3 m ≤ 0 := by omega
          simp (disch := omega) only [gi_nI, tn_nI, hs_1, hs_2, hs_3, hs_4, hs_5, hs_6, hs_7, hs_s, hs_m, hs_h, hs_t, lit_nI, nI_add, nI_mul, nI_eq, nI_leI, nI_ltI, nm_i, bd_s, Nat.one_ne_zero, Nat.zero_ne_one, Nat.reduceEqDiff, Nat.reduceLeDiff, Nat.reduceLT, Nat.reduceAdd, Nat.reduceSub, Nat.reduceMul, e10, e01, en1, en2, en3, en4, en6, rq1, rq2, rq3, rq4, rq6, rm1, rm2, rm3, rm4, rm6, fz0, fz1, X5_bound_e, X5_isIn_e, Nat.lt_irrefl, Nat.le_refl, Nat.not_lt_zero, Nat.zero_le, n9a, n9b, n9c, n9d, n9e, n9f, n9g, e2, h4, ↓reduceIte]
    · refine ⟨-nI 2, _, rf q 2, rf (hs c GM) 2, ?_, ?_, hQ.ref 2⟩
      · simp (disch := omega) only [gi_nI, tn_nI, hs_1, hs_2, hs_3, hs_4, hs_5, hs_6, hs_7, hs_s, hs_m, hs_h, hs_t, lit_nI, nI_add, nI_mul, nI_eq, nI_leI, nI_ltI, nm_i, bd_s, Nat.one_ne_zero, Nat.zero_ne_one, Nat.reduceEqDiff, Nat.reduceLeDiff, Nat.reduceLT, Nat.reduceAdd, Nat.reduceSub, Nat.reduceMul, e10, e01, en1, en2, en3, en4, en6, rq1, rq2, rq3, rq4, rq6, rm1, rm2, rm3, rm4, rm6, fz0, fz1, X5_bound_e, X5_isIn_e, Nat.lt_irrefl, Nat.le_refl, Nat.not_lt_zero, Nat.zero_le, n9a, n9b, n9c, n9d, n9e, n9f, n9g, e1, w1, w2, ↓reduceIte]
      · simp (disch := omega) only [gi_nI, tn_nI, hs_1, hs_2, hs_3, hs_4, hs_5, hs_6, hs_7, hs_s, hs_m, hs_h, hs_t, lit_nI, nI_add, nI_mul, nI_eq, nI_leI, nI_ltI, nm_i, bd_s, Nat.one_ne_zero, Nat.zero_ne_one, Nat.reduceEqDiff, Nat.reduceLeDiff, Nat.reduceLT, Nat.reduceAdd, Nat.reduceSub, Nat.reduceMul, e10, e01, en1, en2, en3, en4, en6, rq1, rq2, rq3, rq4, rq6, rm1, rm2, rm3, rm4, rm6, fz0, fz1, X5_bound_e, X5_isIn_e, Nat.lt_irrefl, Nat.le_refl, Nat.not_lt_zero, Nat.zero_le, n9a, n9b, n9c, n9d, n9e, n9f, n9g, e2, w3, ↓reduceIte]
  · obtain ⟨e1, -⟩ := hn Gn
    obtain ⟨-, e2⟩ := hn GM
    refine ⟨-nI 1, _, rf q 1, rf (hs c GM) 1, ?_, ?_, hQ.ref 1⟩
    · simp (disch := omega) only [gi_nI, tn_nI, hs_1, hs_2, hs_3, hs_4, hs_5, hs_6, hs_7, hs_s, hs_m, hs_h, hs_t, lit_nI, nI_add, nI_mul, nI_eq, nI_leI, nI_ltI, nm_i, bd_s, Nat.one_ne_zero, Nat.zero_ne_one, Nat.reduceEqDiff, Nat.reduceLeDiff, Nat.reduceLT, Nat.reduceAdd, Nat.reduceSub, Nat.reduceMul, e10, e01, en1, en2, en3, en4, en6, rq1, rq2, rq3, rq4, rq6, rm1, rm2, rm3, rm4, rm6, fz0, fz1, X5_bound_e, X5_isIn_e, Nat.lt_irrefl, Nat.le_refl, Nat.not_lt_zero, Nat.zero_le, n9a, n9b, n9c, n9d, n9e, n9f, n9g, e1, ↓reduceIte]
    · simp (disch := omega) only [gi_nI, tn_nI, hs_1, hs_2, hs_3, hs_4, hs_5, hs_6, hs_7, hs_s, hs_m, hs_h, hs_t, lit_nI, nI_add, nI_mul, nI_eq, nI_leI, nI_ltI, nm_i, bd_s, Nat.one_ne_zero, Nat.zero_ne_one, Nat.reduceEqDiff, Nat.reduceLeDiff, Nat.reduceLT, Nat.reduceAdd, Nat.reduceSub, Nat.reduceMul, e10, e01, en1, en2, en3, en4, en6, rq1, rq2, rq3, rq4, rq6, rm1, rm2, rm3, rm4, rm6, fz0, fz1, X5_bound_e, X5_isIn_e, Nat.lt_irrefl, Nat.le_refl, Nat.not_lt_zero, Nat.zero_le, n9a, n9b, n9c, n9d, n9e, n9f, n9g, e2, ↓reduceIte]
/-! cheapest -/
def ch (c : G2) : Nat → Int32 × Int32
  | 0 => (-nI 9, nI 2147483647)
  | j + 1 => if c 3 j = 0 ∧ ¬ (FW c j).1 = -nI 9 ∧ ¬ (ch c j).2 ≤ (FW c j).1 then (nI j, (FW c j).1) else ch c j
theorem ch_t {c : G2} {j : Nat} (h : c 3 j = 0 ∧ ¬ (FW c j).1 = -nI 9 ∧ ¬ (ch c j).2 ≤ (FW c j).1) : ch c (j + 1) = (nI j, (FW c j).1) := by simp only [ch]; rw [if_pos h]
theorem ch_f {c : G2} {j : Nat} (h : ¬ (c 3 j = 0 ∧ ¬ (FW c j).1 = -nI 9 ∧ ¬ (ch c j).2 ≤ (FW c j).1)) : ch c (j + 1) = ch c j := by simp only [ch]; rw [if_neg h]
theorem ch_or {c : G2} : ∀ j, ch c j = (-nI 9, nI 2147483647) ∨ ∃ i k, i < j ∧ k ≤ 72 ∧ ch c j = (nI i, nI k)
  | 0 => Or.inl rfl
  | j + 1 => by
    by_cases h : c 3 j = 0 ∧ ¬ (FW c j).1 = -nI 9 ∧ ¬ (ch c j).2 ≤ (FW c j).1
    · rw [ch_t h]
      rcases FW_or (c := c) (s := j) with e | ⟨k, h1, h2, e⟩
      · exact absurd e h.2.1
      · exact Or.inr ⟨j, k, by omega, h1, by rw [e]⟩
    · rw [ch_f h]
      rcases ch_or j with e | ⟨i, k, h1, h2, e⟩
      · exact Or.inl e
      · exact Or.inr ⟨i, k, by omega, h2, e⟩
theorem X4_cheap {c : G2} {Gn t k g w z q : St} (hG : Gd c) : ∃ r, f_X4_cheapest (hs c Gn) t k g w z q = some r ∧ ∃ G', r = ((ch c (c 16 0)).1, hs c G') := by
  have hI := hG.1
  have hN := hI.2.1
  unfold f_X4_cheapest
  refine lp_r (fun j s => ∃ G', s = ((ch c j).1, (if (ch c j).1 = -nI 9 then -nI 9 else (ch c j).2), nI j, hs c G')) _ (c 16 0) ⟨Gn, rfl⟩ (fun j hj s hs1 => Or.inl ?_) (fun s hs1 => ?_) (by omega)
  · obtain ⟨G, rfl⟩ := hs1
    have h1 : ¬ c 16 0 ≤ j := by omega
    have e1 := X0_isIn (G := G) hI (show j < 5 by omega)
    have e2 := X0_fewestWords (G := G) hI hG.2.2.2.2 (show j < 5 by omega)
    by_cases h3 : c 3 j = 0
    · rw [if_pos h3] at e1
      rcases FW_or (c := c) (s := j) with e | ⟨k, h4, h5, e⟩
      · rw [ch_f (fun z => z.2.1 e)]
        rw [e] at e2
        refine ⟨_, ⟨aj G 8 (FW c j).2, rfl⟩, fun nx => ?_⟩
        simp (disch := omega) only [gi_nI, tn_nI, hs_1, hs_2, hs_3, hs_4, hs_5, hs_6, hs_7, hs_s, hs_m, hs_h, hs_t, lit_nI, nI_add, nI_mul, nI_eq, nI_leI, nI_ltI, nm_i, bd_s, Nat.one_ne_zero, Nat.zero_ne_one, Nat.reduceEqDiff, Nat.reduceLeDiff, Nat.reduceLT, Nat.reduceAdd, Nat.reduceSub, Nat.reduceMul, e10, e01, en1, en2, en3, en4, en6, rq1, rq2, rq3, rq4, rq6, rm1, rm2, rm3, rm4, rm6, fz0, fz1, X5_bound_e, X5_isIn_e, Nat.lt_irrefl, Nat.le_refl, Nat.not_lt_zero, Nat.zero_le, n9a, n9b, n9c, n9d, n9e, n9f, n9g, h1, e1, e2, ↓reduceIte]
      · rw [e] at e2
        rcases ch_or (c := c) j with ho | ⟨i, v, h7, h8, ho⟩
        · have hc : ¬ (ch c j).2 ≤ (FW c j).1 := by
            rw [ho, e]
            dsimp only
            rw [nI_leI (by omega) (by omega)]
            omega
          rw [ch_t ⟨h3, by rw [e, n9a (by omega)]; exact id, hc⟩, e, ho]
          refine ⟨_, ⟨aj G 8 (FW c j).2, rfl⟩, fun nx => ?_⟩
          simp (disch := omega) only [gi_nI, tn_nI, hs_1, hs_2, hs_3, hs_4, hs_5, hs_6, hs_7, hs_s, hs_m, hs_h, hs_t, lit_nI, nI_add, nI_mul, nI_eq, nI_leI, nI_ltI, nm_i, bd_s, Nat.one_ne_zero, Nat.zero_ne_one, Nat.reduceEqDiff, Nat.reduceLeDiff, Nat.reduceLT, Nat.reduceAdd, Nat.reduceSub, Nat.reduceMul, e10, e01, en1, en2, en3, en4, en6, rq1, rq2, rq3, rq4, rq6, rm1, rm2, rm3, rm4, rm6, fz0, fz1, X5_bound_e, X5_isIn_e, Nat.lt_irrefl, Nat.le_refl, Nat.not_lt_zero, Nat.zero_le, n9a, n9b, n9c, n9d, n9e, n9f, n9g, h1, e1, e2, n9n, ↓reduceIte]
        · by_cases h6 : v ≤ k
          · have hc : (ch c j).2 ≤ (FW c j).1 := by
              rw [ho, e]
              dsimp only
              rw [nI_leI (by omega) (by omega)]
              exact h6
            rw [ch_f (fun z => z.2.2 hc), ho]
            refine ⟨_, ⟨aj G 8 (FW c j).2, rfl⟩, fun nx => ?_⟩
            simp (disch := omega) only [gi_nI, tn_nI, hs_1, hs_2, hs_3, hs_4, hs_5, hs_6, hs_7, hs_s, hs_m, hs_h, hs_t, lit_nI, nI_add, nI_mul, nI_eq, nI_leI, nI_ltI, nm_i, bd_s, Nat.one_ne_zero, Nat.zero_ne_one, Nat.reduceEqDiff, Nat.reduceLeDiff, Nat.reduceLT, Nat.reduceAdd, Nat.reduceSub, Nat.reduceMul, e10, e01, en1, en2, en3, en4, en6, rq1, rq2, rq3, rq4, rq6, rm1, rm2, rm3, rm4, rm6, fz0, fz1, X5_bound_e, X5_isIn_e, Nat.lt_irrefl, Nat.le_refl, Nat.not_lt_zero, Nat.zero_le, n9a, n9b, n9c, n9d, n9e, n9f, n9g, h1, e1, e2, h6, ↓reduceIte]
          · have hc : ¬ (ch c j).2 ≤ (FW c j).1 := by
              rw [ho, e]
              dsimp only
              rw [nI_leI (by omega) (by omega)]
              exact h6
            rw [ch_t ⟨h3, by rw [e, n9a (by omega)]; exact id, hc⟩, ho, e]
            refine ⟨_, ⟨aj G 8 (FW c j).2, rfl⟩, fun nx => ?_⟩
            simp (disch := omega) only [gi_nI, tn_nI, hs_1, hs_2, hs_3, hs_4, hs_5, hs_6, hs_7, hs_s, hs_m, hs_h, hs_t, lit_nI, nI_add, nI_mul, nI_eq, nI_leI, nI_ltI, nm_i, bd_s, Nat.one_ne_zero, Nat.zero_ne_one, Nat.reduceEqDiff, Nat.reduceLeDiff, Nat.reduceLT, Nat.reduceAdd, Nat.reduceSub, Nat.reduceMul, e10, e01, en1, en2, en3, en4, en6, rq1, rq2, rq3, rq4, rq6, rm1, rm2, rm3, rm4, rm6, fz0, fz1, X5_bound_e, X5_isIn_e, Nat.lt_irrefl, Nat.le_refl, Nat.not_lt_zero, Nat.zero_le, n9a, n9b, n9c, n9d, n9e, n9f, n9g, h1, e1, e2, h6, ↓reduceIte]
    · rw [if_neg h3] at e1
      rw [ch_f (fun z => h3 z.1)]
      refine ⟨_, ⟨G, rfl⟩, fun nx => ?_⟩
      simp (disch := omega) only [gi_nI, tn_nI, hs_1, hs_2, hs_3, hs_4, hs_5, hs_6, hs_7, hs_s, hs_m, hs_h, hs_t, lit_nI, nI_add, nI_mul, nI_eq, nI_leI, nI_ltI, nm_i, bd_s, Nat.one_ne_zero, Nat.zero_ne_one, Nat.reduceEqDiff, Nat.reduceLeDiff, Nat.reduceLT, Nat.reduceAdd, Nat.reduceSub, Nat.reduceMul, e10, e01, en1, en2, en3, en4, en6, rq1, rq2, rq3, rq4, rq6, rm1, rm2, rm3, rm4, rm6, fz0, fz1, X5_bound_e, X5_isIn_e, Nat.lt_irrefl, Nat.le_refl, Nat.not_lt_zero, Nat.zero_le, n9a, n9b, n9c, n9d, n9e, n9f, n9g, h1, e1, ↓reduceIte]
  · obtain ⟨G, rfl⟩ := hs1
    refine ⟨_, ⟨G, rfl⟩, fun nx => ?_⟩
    simp (disch := omega) only [gi_nI, tn_nI, hs_1, hs_2, hs_3, hs_4, hs_5, hs_6, hs_7, hs_s, hs_m, hs_h, hs_t, lit_nI, nI_add, nI_mul, nI_eq, nI_leI, nI_ltI, nm_i, bd_s, Nat.one_ne_zero, Nat.zero_ne_one, Nat.reduceEqDiff, Nat.reduceLeDiff, Nat.reduceLT, Nat.reduceAdd, Nat.reduceSub, Nat.reduceMul, e10, e01, en1, en2, en3, en4, en6, rq1, rq2, rq3, rq4, rq6, rm1, rm2, rm3, rm4, rm6, fz0, fz1, X5_bound_e, X5_isIn_e, Nat.lt_irrefl, Nat.le_refl, Nat.not_lt_zero, Nat.zero_le, n9a, n9b, n9c, n9d, n9e, n9f, n9g, ↓reduceIte]
theorem X5_cheap {c kc : G2} {GM g w q : St} (hG : Gd c) (hS : Sx kc g w q GM) : ∃ r, f_X5_cheapest (hs c GM) = some r ∧ ∃ G', r = ((ch c (c 16 0)).1, hs c G') ∧ Sx kc g w q G' := by
  have hI := hG.1
  have hN := hI.2.1
  unfold f_X5_cheapest
  refine lp_r (fun j s => ∃ G', s = ((ch c j).1, (if (ch c j).1 = -nI 9 then -nI 9 else (ch c j).2), nI j, hs c G') ∧ Sx kc g w q G') _ (c 16 0) ⟨GM, rfl, hS⟩ (fun j hj s hs1 => Or.inl ?_) (fun s hs1 => ?_) (by omega)
  · obtain ⟨G, rfl, hSG⟩ := hs1
    have h1 : ¬ c 16 0 ≤ j := by omega
    have b3 := hI.1 3 j
    have e2 := X5_fewestOf (G := G) hI hG.2.2.2.2 (show j < 5 by omega)
    by_cases h3 : c 3 j = 0
    · rcases FW_or (c := c) (s := j) with e | ⟨k, h4, h5, e⟩
      · rw [ch_f (fun z => z.2.1 e)]
        rw [e] at e2
        refine ⟨_, ⟨aj G 8 (FW c j).2, rfl, hSG.aj⟩, fun nx => ?_⟩
        simp (disch := omega) only [gi_nI, tn_nI, hs_1, hs_2, hs_3, hs_4, hs_5, hs_6, hs_7, hs_s, hs_m, hs_h, hs_t, lit_nI, nI_add, nI_mul, nI_eq, nI_leI, nI_ltI, nm_i, bd_s, Nat.one_ne_zero, Nat.zero_ne_one, Nat.reduceEqDiff, Nat.reduceLeDiff, Nat.reduceLT, Nat.reduceAdd, Nat.reduceSub, Nat.reduceMul, e10, e01, en1, en2, en3, en4, en6, rq1, rq2, rq3, rq4, rq6, rm1, rm2, rm3, rm4, rm6, fz0, fz1, X5_bound_e, X5_isIn_e, Nat.lt_irrefl, Nat.le_refl, Nat.not_lt_zero, Nat.zero_le, n9a, n9b, n9c, n9d, n9e, n9f, n9g, h1, h3, e2, n9n, ↓reduceIte]
      · rw [e] at e2
        rcases ch_or (c := c) j with ho | ⟨i, v, h7, h8, ho⟩
        · have hc : ¬ (ch c j).2 ≤ (FW c j).1 := by
            rw [ho, e]
            dsimp only
            rw [nI_leI (by omega) (by omega)]
            omega
          rw [ch_t ⟨h3, by rw [e, n9a (by omega)]; exact id, hc⟩, e, ho]
          refine ⟨_, ⟨aj G 8 (FW c j).2, rfl, hSG.aj⟩, fun nx => ?_⟩
          simp (disch := omega) only [gi_nI, tn_nI, hs_1, hs_2, hs_3, hs_4, hs_5, hs_6, hs_7, hs_s, hs_m, hs_h, hs_t, lit_nI, nI_add, nI_mul, nI_eq, nI_leI, nI_ltI, nm_i, bd_s, Nat.one_ne_zero, Nat.zero_ne_one, Nat.reduceEqDiff, Nat.reduceLeDiff, Nat.reduceLT, Nat.reduceAdd, Nat.reduceSub, Nat.reduceMul, e10, e01, en1, en2, en3, en4, en6, rq1, rq2, rq3, rq4, rq6, rm1, rm2, rm3, rm4, rm6, fz0, fz1, X5_bound_e, X5_isIn_e, Nat.lt_irrefl, Nat.le_refl, Nat.not_lt_zero, Nat.zero_le, n9a, n9b, n9c, n9d, n9e, n9f, n9g, h1, h3, e2, n9n, ↓reduceIte]
        · have ho1 : ¬ (ch c j).1 = -nI 9 := by
            rw [ho, n9a (by omega)]
            exact id
          by_cases h6 : v ≤ k
          · have hc : (ch c j).2 ≤ (FW c j).1 := by
              rw [ho, e]
              dsimp only
              rw [nI_leI (by omega) (by omega)]
              exact h6
            rw [ch_f (fun z => z.2.2 hc), ho]
            refine ⟨_, ⟨aj G 8 (FW c j).2, rfl, hSG.aj⟩, fun nx => ?_⟩
            have h9 : ¬ k < v := by omega
            simp (disch := omega) only [gi_nI, tn_nI, hs_1, hs_2, hs_3, hs_4, hs_5, hs_6, hs_7, hs_s, hs_m, hs_h, hs_t, lit_nI, nI_add, nI_mul, nI_eq, nI_leI, nI_ltI, nm_i, bd_s, Nat.one_ne_zero, Nat.zero_ne_one, Nat.reduceEqDiff, Nat.reduceLeDiff, Nat.reduceLT, Nat.reduceAdd, Nat.reduceSub, Nat.reduceMul, e10, e01, en1, en2, en3, en4, en6, rq1, rq2, rq3, rq4, rq6, rm1, rm2, rm3, rm4, rm6, fz0, fz1, X5_bound_e, X5_isIn_e, Nat.lt_irrefl, Nat.le_refl, Nat.not_lt_zero, Nat.zero_le, n9a, n9b, n9c, n9d, n9e, n9f, n9g, h1, h3, e2, h9, ↓reduceIte]
          · have hc : ¬ (ch c j).2 ≤ (FW c j).1 := by
              rw [ho, e]
              dsimp only
              rw [nI_leI (by omega) (by omega)]
              exact h6
            rw [ch_t ⟨h3, by rw [e, n9a (by omega)]; exact id, hc⟩, ho, e]
            refine ⟨_, ⟨aj G 8 (FW c j).2, rfl, hSG.aj⟩, fun nx => ?_⟩
            have h9 : k < v := by omega
            simp (disch := omega) only [gi_nI, tn_nI, hs_1, hs_2, hs_3, hs_4, hs_5, hs_6, hs_7, hs_s, hs_m, hs_h, hs_t, lit_nI, nI_add, nI_mul, nI_eq, nI_leI, nI_ltI, nm_i, bd_s, Nat.one_ne_zero, Nat.zero_ne_one, Nat.reduceEqDiff, Nat.reduceLeDiff, Nat.reduceLT, Nat.reduceAdd, Nat.reduceSub, Nat.reduceMul, e10, e01, en1, en2, en3, en4, en6, rq1, rq2, rq3, rq4, rq6, rm1, rm2, rm3, rm4, rm6, fz0, fz1, X5_bound_e, X5_isIn_e, Nat.lt_irrefl, Nat.le_refl, Nat.not_lt_zero, Nat.zero_le, n9a, n9b, n9c, n9d, n9e, n9f, n9g, h1, h3, e2, h9, ↓reduceIte]
    · rw [ch_f (fun z => h3 z.1)]
      refine ⟨_, ⟨G, rfl, hSG⟩, fun nx => ?_⟩
      have h4 : ¬ c 3 j ≤ 0 := by omega
      simp (disch := omega) only [gi_nI, tn_nI, hs_1, hs_2, hs_3, hs_4, hs_5, hs_6, hs_7, hs_s, hs_m, hs_h, hs_t, lit_nI, nI_add, nI_mul, nI_eq, nI_leI, nI_ltI, nm_i, bd_s, Nat.one_ne_zero, Nat.zero_ne_one, Nat.reduceEqDiff, Nat.reduceLeDiff, Nat.reduceLT, Nat.reduceAdd, Nat.reduceSub, Nat.reduceMul, e10, e01, en1, en2, en3, en4, en6, rq1, rq2, rq3, rq4, rq6, rm1, rm2, rm3, rm4, rm6, fz0, fz1, X5_bound_e, X5_isIn_e, Nat.lt_irrefl, Nat.le_refl, Nat.not_lt_zero, Nat.zero_le, n9a, n9b, n9c, n9d, n9e, n9f, n9g, h1, h4, ↓reduceIte]
  · obtain ⟨G, rfl, hSG⟩ := hs1
    refine ⟨_, ⟨G, rfl, hSG⟩, fun nx => ?_⟩
    simp (disch := omega) only [gi_nI, tn_nI, hs_1, hs_2, hs_3, hs_4, hs_5, hs_6, hs_7, hs_s, hs_m, hs_h, hs_t, lit_nI, nI_add, nI_mul, nI_eq, nI_leI, nI_ltI, nm_i, bd_s, Nat.one_ne_zero, Nat.zero_ne_one, Nat.reduceEqDiff, Nat.reduceLeDiff, Nat.reduceLT, Nat.reduceAdd, Nat.reduceSub, Nat.reduceMul, e10, e01, en1, en2, en3, en4, en6, rq1, rq2, rq3, rq4, rq6, rm1, rm2, rm3, rm4, rm6, fz0, fz1, X5_bound_e, X5_isIn_e, Nat.lt_irrefl, Nat.le_refl, Nat.not_lt_zero, Nat.zero_le, n9a, n9b, n9c, n9d, n9e, n9f, n9g, ↓reduceIte]
theorem r_cheapest {n t k g w z q M : St} (hR : R n t k g w z q M) : ∃ r n' M', f_X4_cheapest n t k g w z q = some (r, n') ∧ f_X5_cheapest M = some (r, M') ∧ R n' t k g w z q M' := by
  obtain ⟨c, ct, kc, Gn, Gt, Gk, GM, rfl, rfl, rfl, rfl, hG, hZ, hK, hS⟩ := hR
  obtain ⟨_, h1, G1, rfl⟩ := X4_cheap (Gn := Gn) (t := hs ct Gt) (k := hs kc Gk) (g := g) (w := w) (z := z) (q := q) hG
  obtain ⟨_, h3, G', rfl, h4⟩ := X5_cheap hG hS
  exact ⟨_, _, _, h1, h3, c, ct, kc, G1, Gt, Gk, G', rfl, rfl, rfl, rfl, hG, hZ, hK, h4⟩
/-! when -/
theorem tds_1 {c : G2} : tds c 1 = tid c := rfl
theorem Hd_tds {c : G2} (hG : Hd c) : ∀ n, c 16 3 + n ≤ 9999 → Hd (tds c n)
  | 0, _ => hG
  | n + 1, h => Hd_tid (Hd_tds hG n (by omega)) (by rw [tds_t]; omega)
/-- the ship s does not rise by v words after j tides -/
def wn (c : G2) (s v j : Nat) : Prop := ¬ (tds c j 3 s = 0 ∧ ∃ k, k ≤ v ∧ (FW (tds c j) s).1 = nI k)
theorem fst_t {P : Nat → Prop} [DecidablePred P] {d j : Nat} (h : P j) : fst P (d + 1) j = fst P d (j + 1) := by simp only [fst]; rw [if_pos h]
theorem fst_f {P : Nat → Prop} [DecidablePred P] {d j : Nat} (h : ¬ P j) : fst P (d + 1) j = nI j := by simp only [fst]; rw [if_neg h]
theorem X4_wh {c ct : G2} {Gn Gt k g w z q : St} {s v : Nat} {P : Nat → Prop} [DecidablePred P] (hP : ∀ j, P j ↔ wn c s v j) (hG : Gd c) (hZ : Zc ct) (hs1 : s < c 16 0) (hv : v ≤ 20) : ∃ r, f_X4_when (hs c Gn) (hs ct Gt) k g w z q (nI s) (nI v) = some r ∧ ∃ d G', r = (fst P 61 0, hs d G', q) ∧ Zc d := by
  have hI := hG.1
  have hT := hG.2.2.2.1
  have hN := hI.2.1
  have e1 := X0_hasShip (G := Gn) hI (show s < 2147483648 by omega)
  rw [if_pos hs1] at e1
  have e2 := X0_copyFrom (G := Gn) (Gt := Gt) hG.2.1 hZ
  unfold f_X4_when
  simp (disch := omega) only [gi_nI, tn_nI, hs_1, hs_2, hs_3, hs_4, hs_5, hs_6, hs_7, hs_s, hs_m, hs_h, hs_t, lit_nI, nI_add, nI_mul, nI_eq, nI_leI, nI_ltI, nm_i, bd_s, Nat.one_ne_zero, Nat.zero_ne_one, Nat.reduceEqDiff, Nat.reduceLeDiff, Nat.reduceLT, Nat.reduceAdd, Nat.reduceSub, Nat.reduceMul, e10, e01, en1, en2, en3, en4, en6, rq1, rq2, rq3, rq4, rq6, rm1, rm2, rm3, rm4, rm6, fz0, fz1, X5_bound_e, X5_isIn_e, Nat.lt_irrefl, Nat.le_refl, Nat.not_lt_zero, Nat.zero_le, n9a, n9b, n9c, n9d, n9e, n9f, n9g, e1, hv, e2, ↓reduceIte]
  refine lp_r (fun j x => fst P 61 0 = fst P (61 - j) j ∧ ∃ G', x = (nI j, hs (tds c j) G')) _ 61 ⟨rfl, Gt, rfl⟩ (fun j hj x hx => ?_) (fun x hx => ?_) (by omega)
  · obtain ⟨hf, G, rfl⟩ := hx
    have h1 : ¬ 60 < j := by omega
    have hH := Hd_tds hG.hd j (by omega)
    have hTj := tds_t (c := c) j
    have e3 := X0_isIn (G := G) hH.1 (show s < 5 by omega)
    have e4 := X0_fewestWords (G := G) hH.1 hH.2.2.2 (show s < 5 by omega)
    have e5 := X0_passTides (G := G) (n := 1) hH.1 (by omega) (by omega)
    have e6 := X0_passTides (G := aj G 8 (FW (tds c j) s).2) (n := 1) hH.1 (by omega) (by omega)
    rw [tds_1] at e5 e6
    have e61 : 61 - j = (61 - (j + 1)) + 1 := by omega
    by_cases h3 : tds c j 3 s = 0
    · rw [if_pos h3] at e3
      rcases FW_or (c := tds c j) (s := s) with e | ⟨k, h4, h5, e⟩
      · left
        rw [e] at e4
        have hp : P j := (hP j).mpr (fun z => by
          obtain ⟨k, hk, hk2⟩ := z.2
          rw [e] at hk2
          have := (n9a (v := k) (by omega)).mp hk2.symm
          exact this)
        rw [e61, fst_t hp] at hf
        refine ⟨_, ⟨hf, aj G 8 (FW (tds c j) s).2, rfl⟩, fun nx => ?_⟩
        simp (disch := omega) only [gi_nI, tn_nI, hs_1, hs_2, hs_3, hs_4, hs_5, hs_6, hs_7, hs_s, hs_m, hs_h, hs_t, lit_nI, nI_add, nI_mul, nI_eq, nI_leI, nI_ltI, nm_i, bd_s, Nat.one_ne_zero, Nat.zero_ne_one, Nat.reduceEqDiff, Nat.reduceLeDiff, Nat.reduceLT, Nat.reduceAdd, Nat.reduceSub, Nat.reduceMul, e10, e01, en1, en2, en3, en4, en6, rq1, rq2, rq3, rq4, rq6, rm1, rm2, rm3, rm4, rm6, fz0, fz1, X5_bound_e, X5_isIn_e, Nat.lt_irrefl, Nat.le_refl, Nat.not_lt_zero, Nat.zero_le, n9a, n9b, n9c, n9d, n9e, n9f, n9g, h1, e3, e4, e6, ↓reduceIte]
        rfl
      · rw [e] at e4
        by_cases h6 : k ≤ v
        · right
          have hp : ¬ P j := fun z => (hP j).mp z ⟨h3, k, h6, e⟩
          rw [e61, fst_f hp] at hf
          refine ⟨_, ⟨tds c j, aj G 8 (FW (tds c j) s).2, rfl, hH.2.1⟩, fun nx => ?_⟩
          have h7 : ¬ v < k := by omega
          simp (disch := omega) only [gi_nI, tn_nI, hs_1, hs_2, hs_3, hs_4, hs_5, hs_6, hs_7, hs_s, hs_m, hs_h, hs_t, lit_nI, nI_add, nI_mul, nI_eq, nI_leI, nI_ltI, nm_i, bd_s, Nat.one_ne_zero, Nat.zero_ne_one, Nat.reduceEqDiff, Nat.reduceLeDiff, Nat.reduceLT, Nat.reduceAdd, Nat.reduceSub, Nat.reduceMul, e10, e01, en1, en2, en3, en4, en6, rq1, rq2, rq3, rq4, rq6, rm1, rm2, rm3, rm4, rm6, fz0, fz1, X5_bound_e, X5_isIn_e, Nat.lt_irrefl, Nat.le_refl, Nat.not_lt_zero, Nat.zero_le, n9a, n9b, n9c, n9d, n9e, n9f, n9g, h1, e3, e4, h7, hf, ↓reduceIte]
        · left
          have hp : P j := (hP j).mpr (fun z => by
            obtain ⟨k', hk, hk2⟩ := z.2
            rw [e, nI_eq (by omega) (by omega)] at hk2
            omega)
          rw [e61, fst_t hp] at hf
          refine ⟨_, ⟨hf, aj G 8 (FW (tds c j) s).2, rfl⟩, fun nx => ?_⟩
          have h7 : v < k := by omega
          simp (disch := omega) only [gi_nI, tn_nI, hs_1, hs_2, hs_3, hs_4, hs_5, hs_6, hs_7, hs_s, hs_m, hs_h, hs_t, lit_nI, nI_add, nI_mul, nI_eq, nI_leI, nI_ltI, nm_i, bd_s, Nat.one_ne_zero, Nat.zero_ne_one, Nat.reduceEqDiff, Nat.reduceLeDiff, Nat.reduceLT, Nat.reduceAdd, Nat.reduceSub, Nat.reduceMul, e10, e01, en1, en2, en3, en4, en6, rq1, rq2, rq3, rq4, rq6, rm1, rm2, rm3, rm4, rm6, fz0, fz1, X5_bound_e, X5_isIn_e, Nat.lt_irrefl, Nat.le_refl, Nat.not_lt_zero, Nat.zero_le, n9a, n9b, n9c, n9d, n9e, n9f, n9g, h1, e3, e4, h7, e6, ↓reduceIte]
          rfl
    · left
      rw [if_neg h3] at e3
      have hp : P j := (hP j).mpr (fun z => h3 z.1)
      rw [e61, fst_t hp] at hf
      refine ⟨_, ⟨hf, G, rfl⟩, fun nx => ?_⟩
      simp (disch := omega) only [gi_nI, tn_nI, hs_1, hs_2, hs_3, hs_4, hs_5, hs_6, hs_7, hs_s, hs_m, hs_h, hs_t, lit_nI, nI_add, nI_mul, nI_eq, nI_leI, nI_ltI, nm_i, bd_s, Nat.one_ne_zero, Nat.zero_ne_one, Nat.reduceEqDiff, Nat.reduceLeDiff, Nat.reduceLT, Nat.reduceAdd, Nat.reduceSub, Nat.reduceMul, e10, e01, en1, en2, en3, en4, en6, rq1, rq2, rq3, rq4, rq6, rm1, rm2, rm3, rm4, rm6, fz0, fz1, X5_bound_e, X5_isIn_e, Nat.lt_irrefl, Nat.le_refl, Nat.not_lt_zero, Nat.zero_le, n9a, n9b, n9c, n9d, n9e, n9f, n9g, h1, e3, e5, ↓reduceIte]
      rfl
  · obtain ⟨hf, G, rfl⟩ := hx
    refine ⟨_, ⟨tds c 61, G, rfl, (Hd_tds hG.hd 61 (by omega)).2.1⟩, fun nx => ?_⟩
    simp (disch := omega) only [gi_nI, tn_nI, hs_1, hs_2, hs_3, hs_4, hs_5, hs_6, hs_7, hs_s, hs_m, hs_h, hs_t, lit_nI, nI_add, nI_mul, nI_eq, nI_leI, nI_ltI, nm_i, bd_s, Nat.one_ne_zero, Nat.zero_ne_one, Nat.reduceEqDiff, Nat.reduceLeDiff, Nat.reduceLT, Nat.reduceAdd, Nat.reduceSub, Nat.reduceMul, e10, e01, en1, en2, en3, en4, en6, rq1, rq2, rq3, rq4, rq6, rm1, rm2, rm3, rm4, rm6, fz0, fz1, X5_bound_e, X5_isIn_e, Nat.lt_irrefl, Nat.le_refl, Nat.not_lt_zero, Nat.zero_le, n9a, n9b, n9c, n9d, n9e, n9f, n9g, hf, ↓reduceIte]
    rfl
theorem X5_wh {c kc : G2} {GM g w q : St} {s v : Nat} {P : Nat → Prop} [DecidablePred P] (hP : ∀ j, P j ↔ wn c s v j) (hG : Gd c) (hS : Sx kc g w q GM) (hs1 : s < c 16 0) (hv : v ≤ 20) : ∃ r, f_X5_when (hs c GM) (nI s) (nI v) = some r ∧ ∃ G', r = (fst P 61 0, hs c G') ∧ Sx kc g w q G' := by
  have hI := hG.1
  have hT := hG.2.2.2.1
  have hN := hI.2.1
  have e1 := X5_isShip (G := GM) hI (show s < 2147483648 by omega)
  rw [if_pos hs1] at e1
  obtain ⟨GT, t1, t2, t3⟩ := TF hS hG.2.1
  unfold f_X5_when
  simp (disch := omega) only [gi_nI, tn_nI, hs_1, hs_2, hs_3, hs_4, hs_5, hs_6, hs_7, hs_s, hs_m, hs_h, hs_t, lit_nI, nI_add, nI_mul, nI_eq, nI_leI, nI_ltI, nm_i, bd_s, Nat.one_ne_zero, Nat.zero_ne_one, Nat.reduceEqDiff, Nat.reduceLeDiff, Nat.reduceLT, Nat.reduceAdd, Nat.reduceSub, Nat.reduceMul, e10, e01, en1, en2, en3, en4, en6, rq1, rq2, rq3, rq4, rq6, rm1, rm2, rm3, rm4, rm6, fz0, fz1, X5_bound_e, X5_isIn_e, Nat.lt_irrefl, Nat.le_refl, Nat.not_lt_zero, Nat.zero_le, n9a, n9b, n9c, n9d, n9e, n9f, n9g, e1, hv, t1, ↓reduceIte]
  refine lp_r (fun j x => ∃ G', Sx kc g w q G' ∧ G' 12 = GT 12 ∧ ((fst P 61 0 = fst P (61 - j) j ∧ x = (-nI 9, nI j, hs (tds c j) G')) ∨ ∃ i, i < 61 ∧ fst P 61 0 = nI i ∧ x = (nI i, nI j, hs (tds c j) G'))) _ 61 ⟨GT, t2, rfl, Or.inl ⟨rfl, rfl⟩⟩ (fun j hj x hx => ?_) (fun x hx => ?_) (by omega)
  · obtain ⟨G, g1, g2, hx⟩ := hx
    have h1 : ¬ 60 < j := by omega
    have hH := Hd_tds hG.hd j (by omega)
    have hTj := tds_t (c := c) j
    rcases hx with ⟨hf, rfl⟩ | ⟨i, hi, hf, rfl⟩
    · left
      have b3 := hH.1.1 3 s
      have e4 := X5_fewestOf (G := G) hH.1 hH.2.2.2 (show s < 5 by omega)
      have e5 := X5_goesTide (G := G) hH.1 (by omega)
      have e6 := X5_goesTide (G := aj G 8 (FW (tds c j) s).2) hH.1 (by omega)
      have e61 : 61 - j = (61 - (j + 1)) + 1 := by omega
      by_cases h3 : tds c j 3 s = 0
      · rcases FW_or (c := tds c j) (s := s) with e | ⟨k, h4, h5, e⟩
        · rw [e] at e4
          have hp : P j := (hP j).mpr (fun z => by
            obtain ⟨k, hk, hk2⟩ := z.2
            rw [e] at hk2
            have := (n9a (v := k) (by omega)).mp hk2.symm
            exact this)
          rw [e61, fst_t hp] at hf
          refine ⟨_, ⟨aj G 8 (FW (tds c j) s).2, g1.aj, by rw [aj_o (by decide)]; exact g2, Or.inl ⟨hf, rfl⟩⟩, fun nx => ?_⟩
          simp (disch := omega) only [gi_nI, tn_nI, hs_1, hs_2, hs_3, hs_4, hs_5, hs_6, hs_7, hs_s, hs_m, hs_h, hs_t, lit_nI, nI_add, nI_mul, nI_eq, nI_leI, nI_ltI, nm_i, bd_s, Nat.one_ne_zero, Nat.zero_ne_one, Nat.reduceEqDiff, Nat.reduceLeDiff, Nat.reduceLT, Nat.reduceAdd, Nat.reduceSub, Nat.reduceMul, e10, e01, en1, en2, en3, en4, en6, rq1, rq2, rq3, rq4, rq6, rm1, rm2, rm3, rm4, rm6, fz0, fz1, X5_bound_e, X5_isIn_e, Nat.lt_irrefl, Nat.le_refl, Nat.not_lt_zero, Nat.zero_le, n9a, n9b, n9c, n9d, n9e, n9f, n9g, h1, n0n, h3, e4, e6, n9n, ↓reduceIte]
          rfl
        · rw [e] at e4
          by_cases h6 : k ≤ v
          · have hp : ¬ P j := fun z => (hP j).mp z ⟨h3, k, h6, e⟩
            rw [e61, fst_f hp] at hf
            refine ⟨_, ⟨aj G 8 (FW (tds c j) s).2, g1.aj, by rw [aj_o (by decide)]; exact g2, Or.inr ⟨j, hj, hf, rfl⟩⟩, fun nx => ?_⟩
            have h7 : ¬ v < k := by omega
            simp (disch := omega) only [gi_nI, tn_nI, hs_1, hs_2, hs_3, hs_4, hs_5, hs_6, hs_7, hs_s, hs_m, hs_h, hs_t, lit_nI, nI_add, nI_mul, nI_eq, nI_leI, nI_ltI, nm_i, bd_s, Nat.one_ne_zero, Nat.zero_ne_one, Nat.reduceEqDiff, Nat.reduceLeDiff, Nat.reduceLT, Nat.reduceAdd, Nat.reduceSub, Nat.reduceMul, e10, e01, en1, en2, en3, en4, en6, rq1, rq2, rq3, rq4, rq6, rm1, rm2, rm3, rm4, rm6, fz0, fz1, X5_bound_e, X5_isIn_e, Nat.lt_irrefl, Nat.le_refl, Nat.not_lt_zero, Nat.zero_le, n9a, n9b, n9c, n9d, n9e, n9f, n9g, h1, n0n, h3, e4, e6, h7, ↓reduceIte]
            rfl
          · have hp : P j := (hP j).mpr (fun z => by
              obtain ⟨k', hk, hk2⟩ := z.2
              rw [e, nI_eq (by omega) (by omega)] at hk2
              omega)
            rw [e61, fst_t hp] at hf
            refine ⟨_, ⟨aj G 8 (FW (tds c j) s).2, g1.aj, by rw [aj_o (by decide)]; exact g2, Or.inl ⟨hf, rfl⟩⟩, fun nx => ?_⟩
            have h7 : v < k := by omega
            simp (disch := omega) only [gi_nI, tn_nI, hs_1, hs_2, hs_3, hs_4, hs_5, hs_6, hs_7, hs_s, hs_m, hs_h, hs_t, lit_nI, nI_add, nI_mul, nI_eq, nI_leI, nI_ltI, nm_i, bd_s, Nat.one_ne_zero, Nat.zero_ne_one, Nat.reduceEqDiff, Nat.reduceLeDiff, Nat.reduceLT, Nat.reduceAdd, Nat.reduceSub, Nat.reduceMul, e10, e01, en1, en2, en3, en4, en6, rq1, rq2, rq3, rq4, rq6, rm1, rm2, rm3, rm4, rm6, fz0, fz1, X5_bound_e, X5_isIn_e, Nat.lt_irrefl, Nat.le_refl, Nat.not_lt_zero, Nat.zero_le, n9a, n9b, n9c, n9d, n9e, n9f, n9g, h1, n0n, h3, e4, e6, h7, ↓reduceIte]
            rfl
      · have hp : P j := (hP j).mpr (fun z => h3 z.1)
        rw [e61, fst_t hp] at hf
        refine ⟨_, ⟨G, g1, g2, Or.inl ⟨hf, rfl⟩⟩, fun nx => ?_⟩
        simp (disch := omega) only [gi_nI, tn_nI, hs_1, hs_2, hs_3, hs_4, hs_5, hs_6, hs_7, hs_s, hs_m, hs_h, hs_t, lit_nI, nI_add, nI_mul, nI_eq, nI_leI, nI_ltI, nm_i, bd_s, Nat.one_ne_zero, Nat.zero_ne_one, Nat.reduceEqDiff, Nat.reduceLeDiff, Nat.reduceLT, Nat.reduceAdd, Nat.reduceSub, Nat.reduceMul, e10, e01, en1, en2, en3, en4, en6, rq1, rq2, rq3, rq4, rq6, rm1, rm2, rm3, rm4, rm6, fz0, fz1, X5_bound_e, X5_isIn_e, Nat.lt_irrefl, Nat.le_refl, Nat.not_lt_zero, Nat.zero_le, n9a, n9b, n9c, n9d, n9e, n9f, n9g, h1, n0n, h3, e5, ↓reduceIte]
        rfl
    · right
      obtain ⟨G', t4, t5⟩ := t3 (tds c j) hH.2.1 G g2 g1
      refine ⟨_, ⟨G', rfl, t5⟩, fun nx => ?_⟩
      simp (disch := omega) only [gi_nI, tn_nI, hs_1, hs_2, hs_3, hs_4, hs_5, hs_6, hs_7, hs_s, hs_m, hs_h, hs_t, lit_nI, nI_add, nI_mul, nI_eq, nI_leI, nI_ltI, nm_i, bd_s, Nat.one_ne_zero, Nat.zero_ne_one, Nat.reduceEqDiff, Nat.reduceLeDiff, Nat.reduceLT, Nat.reduceAdd, Nat.reduceSub, Nat.reduceMul, e10, e01, en1, en2, en3, en4, en6, rq1, rq2, rq3, rq4, rq6, rm1, rm2, rm3, rm4, rm6, fz0, fz1, X5_bound_e, X5_isIn_e, Nat.lt_irrefl, Nat.le_refl, Nat.not_lt_zero, Nat.zero_le, n9a, n9b, n9c, n9d, n9e, n9f, n9g, h1, t4, hf, ↓reduceIte]
  · obtain ⟨G, g1, g2, hx⟩ := hx
    have hH := Hd_tds hG.hd 61 (by omega)
    obtain ⟨G', t4, t5⟩ := t3 (tds c 61) hH.2.1 G g2 g1
    refine ⟨_, ⟨G', rfl, t5⟩, fun nx => ?_⟩
    rcases hx with ⟨hf, rfl⟩ | ⟨i, hi, hf, rfl⟩
    · simp (disch := omega) only [gi_nI, tn_nI, hs_1, hs_2, hs_3, hs_4, hs_5, hs_6, hs_7, hs_s, hs_m, hs_h, hs_t, lit_nI, nI_add, nI_mul, nI_eq, nI_leI, nI_ltI, nm_i, bd_s, Nat.one_ne_zero, Nat.zero_ne_one, Nat.reduceEqDiff, Nat.reduceLeDiff, Nat.reduceLT, Nat.reduceAdd, Nat.reduceSub, Nat.reduceMul, e10, e01, en1, en2, en3, en4, en6, rq1, rq2, rq3, rq4, rq6, rm1, rm2, rm3, rm4, rm6, fz0, fz1, X5_bound_e, X5_isIn_e, Nat.lt_irrefl, Nat.le_refl, Nat.not_lt_zero, Nat.zero_le, n9a, n9b, n9c, n9d, n9e, n9f, n9g, t4, hf, ↓reduceIte]
      rfl
    · simp (disch := omega) only [gi_nI, tn_nI, hs_1, hs_2, hs_3, hs_4, hs_5, hs_6, hs_7, hs_s, hs_m, hs_h, hs_t, lit_nI, nI_add, nI_mul, nI_eq, nI_leI, nI_ltI, nm_i, bd_s, Nat.one_ne_zero, Nat.zero_ne_one, Nat.reduceEqDiff, Nat.reduceLeDiff, Nat.reduceLT, Nat.reduceAdd, Nat.reduceSub, Nat.reduceMul, e10, e01, en1, en2, en3, en4, en6, rq1, rq2, rq3, rq4, rq6, rm1, rm2, rm3, rm4, rm6, fz0, fz1, X5_bound_e, X5_isIn_e, Nat.lt_irrefl, Nat.le_refl, Nat.not_lt_zero, Nat.zero_le, n9a, n9b, n9c, n9d, n9e, n9f, n9g, t4, hf, ↓reduceIte]
theorem r_when {n t k g w z q M : St} (hR : R n t k g w z q M) (p1 p2 : Int32) : ∃ r t' q' M', f_X4_when n t k g w z q p1 p2 = some (r, t', q') ∧ f_X5_when M p1 p2 = some (r, M') ∧ R n t' k g w z q' M' := by
  have hQ := hR
  obtain ⟨c, ct, kc, Gn, Gt, Gk, GM, rfl, rfl, rfl, rfl, hG, hZ, hK, hS⟩ := hR
  have hI := hG.1
  have hN := hI.2.1
  rcases ship_or hI p1 with ⟨m, hm, rfl⟩ | hn
  · by_cases h1 : nI 0 ≤ p2
    · by_cases h2 : p2 ≤ nI 20
      · obtain ⟨v, hv, rfl⟩ := rng (by decide) h1 h2
        have hdec : ∃ P : Nat → Bool, ∀ j, P j = true ↔ wn c m v j := by
          refine ⟨fun j => !(decide (tds c j 3 m = 0) && (List.range (v + 1)).any fun k => decide ((FW (tds c j) m).1 = nI k)), fun j => ?_⟩
          unfold wn
          simp only [Bool.not_eq_true', Bool.and_eq_false_iff, decide_eq_false_iff_not, List.any_eq_false, List.mem_range, decide_eq_true_eq]
          constructor
          · rintro (h | h)
            · exact fun z => h z.1
            · rintro ⟨-, k, hk, e⟩
              exact h k (by omega) e
          · intro h
            by_cases h3 : tds c j 3 m = 0
            · right
              intro k hk e
              exact h ⟨h3, k, by omega, e⟩
            · exact Or.inl h3
        obtain ⟨P, hP⟩ := hdec
        obtain ⟨_, a1, d, G1, rfl, a2⟩ := X4_wh (P := fun j => P j = true) (Gn := Gn) (Gt := Gt) (k := hs kc Gk) (g := g) (w := w) (z := z) (q := q) hP hG hZ hm hv
        obtain ⟨_, a3, G', rfl, a4⟩ := X5_wh (P := fun j => P j = true) hP hG hS hm hv
        exact ⟨_, _, q, _, a1, a3, c, d, kc, Gn, G1, Gk, G', rfl, rfl, rfl, rfl, hG, a2, hK, a4⟩
      · have e1 := X0_hasShip (G := Gn) hI (show m < 2147483648 by omega)
        have e2 := X5_isShip (G := GM) hI (show m < 2147483648 by omega)
        rw [if_pos hm] at e1 e2
        refine ⟨-nI 6, _, rf q 6, rf (hs c GM) 6, ?_, ?_, hQ.ref 6⟩
        · unfold f_X4_when
          simp (disch := omega) only [gi_nI, tn_nI, hs_1, hs_2, hs_3, hs_4, hs_5, hs_6, hs_7, hs_s, hs_m, hs_h, hs_t, lit_nI, nI_add, nI_mul, nI_eq, nI_leI, nI_ltI, nm_i, bd_s, Nat.one_ne_zero, Nat.zero_ne_one, Nat.reduceEqDiff, Nat.reduceLeDiff, Nat.reduceLT, Nat.reduceAdd, Nat.reduceSub, Nat.reduceMul, e10, e01, en1, en2, en3, en4, en6, rq1, rq2, rq3, rq4, rq6, rm1, rm2, rm3, rm4, rm6, fz0, fz1, X5_bound_e, X5_isIn_e, Nat.lt_irrefl, Nat.le_refl, Nat.not_lt_zero, Nat.zero_le, n9a, n9b, n9c, n9d, n9e, n9f, n9g, e1, h1, h2, ↓reduceIte]
        · unfold f_X5_when
          simp (disch := omega) only [gi_nI, tn_nI, hs_1, hs_2, hs_3, hs_4, hs_5, hs_6, hs_7, hs_s, hs_m, hs_h, hs_t, lit_nI, nI_add, nI_mul, nI_eq, nI_leI, nI_ltI, nm_i, bd_s, Nat.one_ne_zero, Nat.zero_ne_one, Nat.reduceEqDiff, Nat.reduceLeDiff, Nat.reduceLT, Nat.reduceAdd, Nat.reduceSub, Nat.reduceMul, e10, e01, en1, en2, en3, en4, en6, rq1, rq2, rq3, rq4, rq6, rm1, rm2, rm3, rm4, rm6, fz0, fz1, X5_bound_e, X5_isIn_e, Nat.lt_irrefl, Nat.le_refl, Nat.not_lt_zero, Nat.zero_le, n9a, n9b, n9c, n9d, n9e, n9f, n9g, e2, h1, h2, ↓reduceIte]
    · have e1 := X0_hasShip (G := Gn) hI (show m < 2147483648 by omega)
      have e2 := X5_isShip (G := GM) hI (show m < 2147483648 by omega)
      rw [if_pos hm] at e1 e2
      refine ⟨-nI 4, _, rf q 4, rf (hs c GM) 4, ?_, ?_, hQ.ref 4⟩
      · unfold f_X4_when
        simp (disch := omega) only [gi_nI, tn_nI, hs_1, hs_2, hs_3, hs_4, hs_5, hs_6, hs_7, hs_s, hs_m, hs_h, hs_t, lit_nI, nI_add, nI_mul, nI_eq, nI_leI, nI_ltI, nm_i, bd_s, Nat.one_ne_zero, Nat.zero_ne_one, Nat.reduceEqDiff, Nat.reduceLeDiff, Nat.reduceLT, Nat.reduceAdd, Nat.reduceSub, Nat.reduceMul, e10, e01, en1, en2, en3, en4, en6, rq1, rq2, rq3, rq4, rq6, rm1, rm2, rm3, rm4, rm6, fz0, fz1, X5_bound_e, X5_isIn_e, Nat.lt_irrefl, Nat.le_refl, Nat.not_lt_zero, Nat.zero_le, n9a, n9b, n9c, n9d, n9e, n9f, n9g, e1, h1, ↓reduceIte]
      · unfold f_X5_when
        simp (disch := omega) only [gi_nI, tn_nI, hs_1, hs_2, hs_3, hs_4, hs_5, hs_6, hs_7, hs_s, hs_m, hs_h, hs_t, lit_nI, nI_add, nI_mul, nI_eq, nI_leI, nI_ltI, nm_i, bd_s, Nat.one_ne_zero, Nat.zero_ne_one, Nat.reduceEqDiff, Nat.reduceLeDiff, Nat.reduceLT, Nat.reduceAdd, Nat.reduceSub, Nat.reduceMul, e10, e01, en1, en2, en3, en4, en6, rq1, rq2, rq3, rq4, rq6, rm1, rm2, rm3, rm4, rm6, fz0, fz1, X5_bound_e, X5_isIn_e, Nat.lt_irrefl, Nat.le_refl, Nat.not_lt_zero, Nat.zero_le, n9a, n9b, n9c, n9d, n9e, n9f, n9g, e2, h1, ↓reduceIte]
  · obtain ⟨e1, -⟩ := hn Gn
    obtain ⟨-, e2⟩ := hn GM
    refine ⟨-nI 1, _, rf q 1, rf (hs c GM) 1, ?_, ?_, hQ.ref 1⟩
    · unfold f_X4_when
      simp (disch := omega) only [gi_nI, tn_nI, hs_1, hs_2, hs_3, hs_4, hs_5, hs_6, hs_7, hs_s, hs_m, hs_h, hs_t, lit_nI, nI_add, nI_mul, nI_eq, nI_leI, nI_ltI, nm_i, bd_s, Nat.one_ne_zero, Nat.zero_ne_one, Nat.reduceEqDiff, Nat.reduceLeDiff, Nat.reduceLT, Nat.reduceAdd, Nat.reduceSub, Nat.reduceMul, e10, e01, en1, en2, en3, en4, en6, rq1, rq2, rq3, rq4, rq6, rm1, rm2, rm3, rm4, rm6, fz0, fz1, X5_bound_e, X5_isIn_e, Nat.lt_irrefl, Nat.le_refl, Nat.not_lt_zero, Nat.zero_le, n9a, n9b, n9c, n9d, n9e, n9f, n9g, e1, ↓reduceIte]
    · unfold f_X5_when
      simp (disch := omega) only [gi_nI, tn_nI, hs_1, hs_2, hs_3, hs_4, hs_5, hs_6, hs_7, hs_s, hs_m, hs_h, hs_t, lit_nI, nI_add, nI_mul, nI_eq, nI_leI, nI_ltI, nm_i, bd_s, Nat.one_ne_zero, Nat.zero_ne_one, Nat.reduceEqDiff, Nat.reduceLeDiff, Nat.reduceLT, Nat.reduceAdd, Nat.reduceSub, Nat.reduceMul, e10, e01, en1, en2, en3, en4, en6, rq1, rq2, rq3, rq4, rq6, rm1, rm2, rm3, rm4, rm6, fz0, fz1, X5_bound_e, X5_isIn_e, Nat.lt_irrefl, Nat.le_refl, Nat.not_lt_zero, Nat.zero_le, n9a, n9b, n9c, n9d, n9e, n9f, n9g, e2, ↓reduceIte]
