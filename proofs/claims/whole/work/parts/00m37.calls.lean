/-! CALLS THAT CHANGE THE HARBOUR, and thoughts -/
theorem tell_or {c : G2} (hI : Iv c) {m : Nat} (h : m < 2147483648) : ((m < c 16 1 ∧ 0 < c 6 m ∧ c 3 (c 7 m) = 0) ∧ ∀ G : St, f_X0_canTell (hs c G) (nI m) = some (nI 1) ∧ f_X5_canTell (hs c G) (nI m) = some (nI 1)) ∨ (¬ (m < c 16 1 ∧ 0 < c 6 m ∧ c 3 (c 7 m) = 0) ∧ ∀ G : St, f_X0_canTell (hs c G) (nI m) = some (nI 0) ∧ f_X5_canTell (hs c G) (nI m) = some (nI 0)) := by
  by_cases hx : m < c 16 1 ∧ 0 < c 6 m ∧ c 3 (c 7 m) = 0
  · refine Or.inl ⟨hx, fun G => ?_⟩
    have e1 := X0_canTell (G := G) hI h
    have e2 := X5_canTell (G := G) hI h
    rw [if_pos hx] at e1 e2
    exact ⟨e1, e2⟩
  · refine Or.inr ⟨hx, fun G => ?_⟩
    have e1 := X0_canTell (G := G) hI h
    have e2 := X5_canTell (G := G) hI h
    rw [if_neg hx] at e1 e2
    exact ⟨e1, e2⟩
theorem wh01 (p : Int32) : p = nI 0 ∨ p = nI 1 ∨ (¬ p = nI 0 ∧ ¬ p = nI 1 ∧ (if p < nI 0 then nI 0 else if nI 1 < p then nI 0 else nI 1) = nI 0) := by
  by_cases h0 : p < nI 0
  · right; right
    refine ⟨?_, ?_, by rw [if_pos h0]⟩
    · rintro rfl; exact absurd h0 (by decide +kernel)
    · rintro rfl; exact absurd h0 (by decide +kernel)
  · by_cases h1 : nI 1 < p
    · right; right
      refine ⟨?_, ?_, by rw [if_neg h0, if_pos h1]⟩
      · rintro rfl; exact absurd h1 (by decide +kernel)
      · rintro rfl; exact absurd h1 (by decide +kernel)
    · obtain ⟨v, hv, rfl⟩ := rng (b := 1) (by decide) (Int32.not_lt.mp h0) (Int32.not_lt.mp h1)
      rcases (show v = 0 ∨ v = 1 by omega) with rfl | rfl
      · exact Or.inl rfl
      · exact Or.inr (Or.inl rfl)
theorem X0_hasTidesLeft {c : G2} {G : St} {n : Nat} (ht : c 16 3 ≤ 999) (hn : n < 2147483648) : f_X0_hasTidesLeft (hs c G) (nI n) = some (nI (if 999 - c 16 3 < n then 0 else 1)) := by
  unfold f_X0_hasTidesLeft
  simp (disch := omega) only [gi_nI, tn_nI, hs_1, hs_2, hs_3, hs_4, hs_5, hs_6, hs_7, hs_s, hs_m, hs_h, hs_t, lit_nI, nI_add, nI_mul, nI_eq, nI_leI, nI_ltI, nm_i, bd_s, Nat.one_ne_zero, Nat.zero_ne_one, Nat.reduceEqDiff, Nat.reduceLeDiff, Nat.reduceLT, Nat.reduceAdd, Nat.reduceSub, Nat.reduceMul, e10, e01, en1, en2, en3, en4, en6, rq1, rq2, rq3, rq4, rq6, rm1, rm2, rm3, rm4, rm6, fz0, fz1, X5_bound_e, X5_isIn_e, Nat.lt_irrefl, Nat.le_refl, Nat.not_lt_zero, Nat.zero_le, n9a, n9b, n9c, n9d, n9e, n9f, n9g, nI_sub, ↓reduceIte]
  exact b2j
theorem Kp_12 {G G' : St} {o x : Nat} {c : G2} (h : Kp G o x c) (e : G' 12 = G 12) : Kp G' o x c := fun j hj => by rw [e]; exact h j hj
theorem Sx.s1 {kc : G2} {g w q GM : St} {a k : Nat} {v : Int32} (h : Sx kc g w q GM) (ha : a = 13 ∨ a = 14) : Sx kc g w q (su GM a k v) := by
  have e0 : su GM a k v 0 = GM 0 := by funext j; exact su_ne (by omega)
  have e8 : su GM a k v 8 = GM 8 := by funext j; exact su_ne (by omega)
  have e15 : su GM a k v 15 = GM 15 := by funext j; exact su_ne (by omega)
  exact h.sd ⟨fun e => e.trans e0.symm, rfl, e8, e15, fun k _ => su_ne (by omega), fun j _ => su_ne (by omega)⟩
theorem TF {c kc : G2} {g w q GM : St} (hS : Sx kc g w q GM) (hc : Zc c) : ∃ GT, f_X5_thinks (hs c GM) = some (hs c GT) ∧ Sx kc g w q GT ∧ ∀ d, Zc d → ∀ G2, G2 12 = GT 12 → Sx kc g w q G2 → ∃ G', f_X5_forgets (hs d G2) = some (hs c G') ∧ Sx kc g w q G' := by
  obtain ⟨GT, h1, h2, h3⟩ := X5_thinks (c := c) (G := GM)
  refine ⟨GT, h1, hS.sd (Sd.fr (by decide) h3), fun d hd G2 e s => ?_⟩
  obtain ⟨G', h4, h5, -⟩ := X5_forgets hc hd (Kp_12 h2 e)
  exact ⟨G', h4, s.sd (Sd.fr (by decide) h5)⟩
theorem r_rise {n t k g w z q M : St} (hR : R n t k g w z q M) : ∃ r, f_X4_rise n t k g w z q = some r ∧ f_X5_rise M = some r := by
  obtain ⟨c, ct, kc, Gn, Gt, Gk, GM, rfl, rfl, rfl, rfl, hG, hZ, hK, hS⟩ := hR
  exact m_rise hG.1
theorem r_boards {n t k g w z q M : St} (hR : R n t k g w z q M) (p1 p2 : Int32) : ∃ r n' q' M', f_X4_boards n t k g w z q p1 p2 = some (r, n', q') ∧ f_X5_boards M p1 p2 = some (r, M') ∧ R n' t k g w z q' M' := by
  obtain ⟨c, ct, kc, Gn, Gt, Gk, GM, rfl, rfl, rfl, rfl, hG, hZ, hK, hS⟩ := hR
  obtain ⟨r, c', q', GM', h1, h2, h3, h4⟩ := m_boards (Gn := Gn) (GM := GM) (t := hs ct Gt) (k := hs kc Gk) (g := g) (w := w) (z := z) (q := q) hG.1 p1 p2
  refine ⟨r, _, q', _, h1, h2, c', ct, kc, Gn, Gt, Gk, GM', rfl, rfl, rfl, rfl, ?_, hZ, hK, hS.sd h3⟩
  rcases h4 with rfl | ⟨m, s, hm, hs1, rfl⟩
  · exact hG
  · have := hG.1.2.2.1
    exact Gd_gu7 hG hs1 (by omega)
theorem r_tells {n t k g w z q M : St} (hR : R n t k g w z q M) (p1 : Int32) : ∃ r n' q' M', f_X4_tells n t k g w z q p1 = some (r, n', q') ∧ f_X5_tells M p1 = some (r, M') ∧ R n' t k g w z q' M' := by
  have hQ := hR
  unfold f_X4_tells f_X5_tells
  obtain ⟨c, ct, kc, Gn, Gt, Gk, GM, rfl, rfl, rfl, rfl, hG, hZ, hK, hS⟩ := hR
  have hI := hG.1
  have hN := hI.2.2.1
  rcases man_or hI p1 with ⟨m, hm, rfl⟩ | hn
  · have e1 := X0_hasMan (G := Gn) hI (show m < 2147483648 by omega)
    have e2 := X5_isMan (G := GM) hI (show m < 2147483648 by omega)
    rw [if_pos hm] at e1 e2
    rcases tell_or hI (show m < 2147483648 by omega) with ⟨hx, ht⟩ | ⟨hx, ht⟩
    · have e3 := (ht Gn).1
      have e4 := (ht GM).2
      have e5 := X0_word (G := Gn) hI hx.1 hx.2.1 hx.2.2
      have e6 := X5_tellsOne (G := GM) hI hx.1 hx.2.1
      refine ⟨nI (tcn c m), hs (tel c m) Gn, q, hs (tel c m) GM, ?_, ?_, tel c m, ct, kc, Gn, Gt, Gk, GM, rfl, rfl, rfl, rfl, Gd_tel hG hm, hZ, hK, hS⟩
      · simp (disch := omega) only [gi_nI, tn_nI, hs_1, hs_2, hs_3, hs_4, hs_5, hs_6, hs_7, hs_s, hs_m, hs_h, hs_t, lit_nI, nI_add, nI_mul, nI_eq, nI_leI, nI_ltI, nm_i, bd_s, Nat.one_ne_zero, Nat.zero_ne_one, Nat.reduceEqDiff, Nat.reduceLeDiff, Nat.reduceLT, Nat.reduceAdd, Nat.reduceSub, Nat.reduceMul, e10, e01, en1, en2, en3, en4, en6, rq1, rq2, rq3, rq4, rq6, rm1, rm2, rm3, rm4, rm6, fz0, fz1, X5_bound_e, X5_isIn_e, Nat.lt_irrefl, Nat.le_refl, Nat.not_lt_zero, Nat.zero_le, n9a, n9b, n9c, n9d, n9e, n9f, n9g, e1, e3, e5, ↓reduceIte]
      · simp (disch := omega) only [gi_nI, tn_nI, hs_1, hs_2, hs_3, hs_4, hs_5, hs_6, hs_7, hs_s, hs_m, hs_h, hs_t, lit_nI, nI_add, nI_mul, nI_eq, nI_leI, nI_ltI, nm_i, bd_s, Nat.one_ne_zero, Nat.zero_ne_one, Nat.reduceEqDiff, Nat.reduceLeDiff, Nat.reduceLT, Nat.reduceAdd, Nat.reduceSub, Nat.reduceMul, e10, e01, en1, en2, en3, en4, en6, rq1, rq2, rq3, rq4, rq6, rm1, rm2, rm3, rm4, rm6, fz0, fz1, X5_bound_e, X5_isIn_e, Nat.lt_irrefl, Nat.le_refl, Nat.not_lt_zero, Nat.zero_le, n9a, n9b, n9c, n9d, n9e, n9f, n9g, e2, e4, e6, ↓reduceIte]
    · have e3 := (ht Gn).1
      have e4 := (ht GM).2
      refine ⟨-nI 3, _, rf q 3, rf (hs c GM) 3, ?_, ?_, hQ.ref 3⟩
      · simp (disch := omega) only [gi_nI, tn_nI, hs_1, hs_2, hs_3, hs_4, hs_5, hs_6, hs_7, hs_s, hs_m, hs_h, hs_t, lit_nI, nI_add, nI_mul, nI_eq, nI_leI, nI_ltI, nm_i, bd_s, Nat.one_ne_zero, Nat.zero_ne_one, Nat.reduceEqDiff, Nat.reduceLeDiff, Nat.reduceLT, Nat.reduceAdd, Nat.reduceSub, Nat.reduceMul, e10, e01, en1, en2, en3, en4, en6, rq1, rq2, rq3, rq4, rq6, rm1, rm2, rm3, rm4, rm6, fz0, fz1, X5_bound_e, X5_isIn_e, Nat.lt_irrefl, Nat.le_refl, Nat.not_lt_zero, Nat.zero_le, n9a, n9b, n9c, n9d, n9e, n9f, n9g, e1, e3, ↓reduceIte]
      · simp (disch := omega) only [gi_nI, tn_nI, hs_1, hs_2, hs_3, hs_4, hs_5, hs_6, hs_7, hs_s, hs_m, hs_h, hs_t, lit_nI, nI_add, nI_mul, nI_eq, nI_leI, nI_ltI, nm_i, bd_s, Nat.one_ne_zero, Nat.zero_ne_one, Nat.reduceEqDiff, Nat.reduceLeDiff, Nat.reduceLT, Nat.reduceAdd, Nat.reduceSub, Nat.reduceMul, e10, e01, en1, en2, en3, en4, en6, rq1, rq2, rq3, rq4, rq6, rm1, rm2, rm3, rm4, rm6, fz0, fz1, X5_bound_e, X5_isIn_e, Nat.lt_irrefl, Nat.le_refl, Nat.not_lt_zero, Nat.zero_le, n9a, n9b, n9c, n9d, n9e, n9f, n9g, e2, e4, ↓reduceIte]
  · obtain ⟨e1, -⟩ := hn Gn
    obtain ⟨-, e2⟩ := hn GM
    refine ⟨-nI 1, _, rf q 1, rf (hs c GM) 1, ?_, ?_, hQ.ref 1⟩
    · simp (disch := omega) only [gi_nI, tn_nI, hs_1, hs_2, hs_3, hs_4, hs_5, hs_6, hs_7, hs_s, hs_m, hs_h, hs_t, lit_nI, nI_add, nI_mul, nI_eq, nI_leI, nI_ltI, nm_i, bd_s, Nat.one_ne_zero, Nat.zero_ne_one, Nat.reduceEqDiff, Nat.reduceLeDiff, Nat.reduceLT, Nat.reduceAdd, Nat.reduceSub, Nat.reduceMul, e10, e01, en1, en2, en3, en4, en6, rq1, rq2, rq3, rq4, rq6, rm1, rm2, rm3, rm4, rm6, fz0, fz1, X5_bound_e, X5_isIn_e, Nat.lt_irrefl, Nat.le_refl, Nat.not_lt_zero, Nat.zero_le, n9a, n9b, n9c, n9d, n9e, n9f, n9g, e1, ↓reduceIte]
    · simp (disch := omega) only [gi_nI, tn_nI, hs_1, hs_2, hs_3, hs_4, hs_5, hs_6, hs_7, hs_s, hs_m, hs_h, hs_t, lit_nI, nI_add, nI_mul, nI_eq, nI_leI, nI_ltI, nm_i, bd_s, Nat.one_ne_zero, Nat.zero_ne_one, Nat.reduceEqDiff, Nat.reduceLeDiff, Nat.reduceLT, Nat.reduceAdd, Nat.reduceSub, Nat.reduceMul, e10, e01, en1, en2, en3, en4, en6, rq1, rq2, rq3, rq4, rq6, rm1, rm2, rm3, rm4, rm6, fz0, fz1, X5_bound_e, X5_isIn_e, Nat.lt_irrefl, Nat.le_refl, Nat.not_lt_zero, Nat.zero_le, n9a, n9b, n9c, n9d, n9e, n9f, n9g, e2, ↓reduceIte]
theorem r_sins {n t k g w z q M : St} (hR : R n t k g w z q M) (p1 p2 : Int32) : ∃ r n' q' M', f_X4_sins n t k g w z q p1 p2 = some (r, n', q') ∧ f_X5_sins M p1 p2 = some (r, M') ∧ R n' t k g w z q' M' := by
  have hQ := hR
  unfold f_X4_sins f_X5_sins
  obtain ⟨c, ct, kc, Gn, Gt, Gk, GM, rfl, rfl, rfl, rfl, hG, hZ, hK, hS⟩ := hR
  have hI := hG.1
  have hN := hI.2.2.1
  rcases man_or hI p1 with ⟨m, hm, rfl⟩ | hn
  · have e1 := X0_hasMan (G := Gn) hI (show m < 2147483648 by omega)
    have e2 := X5_isMan (G := GM) hI (show m < 2147483648 by omega)
    rw [if_pos hm] at e1 e2
    by_cases h1 : nI 0 ≤ p2
    · by_cases h2 : p2 ≤ nI 9
      · obtain ⟨v, hv, rfl⟩ := rng (by decide) h1 h2
        refine ⟨nI (c 6 m), hs (gu c 6 m v) Gn, q, hs (gu c 6 m v) GM, ?_, ?_, gu c 6 m v, ct, kc, Gn, Gt, Gk, GM, rfl, rfl, rfl, rfl, Gd_gu hG (by omega) hv (vd7 (by omega) (by omega) (by omega)), hZ, hK, hS⟩
        · simp (disch := omega) only [gi_nI, tn_nI, hs_1, hs_2, hs_3, hs_4, hs_5, hs_6, hs_7, hs_s, hs_m, hs_h, hs_t, lit_nI, nI_add, nI_mul, nI_eq, nI_leI, nI_ltI, nm_i, bd_s, Nat.one_ne_zero, Nat.zero_ne_one, Nat.reduceEqDiff, Nat.reduceLeDiff, Nat.reduceLT, Nat.reduceAdd, Nat.reduceSub, Nat.reduceMul, e10, e01, en1, en2, en3, en4, en6, rq1, rq2, rq3, rq4, rq6, rm1, rm2, rm3, rm4, rm6, fz0, fz1, X5_bound_e, X5_isIn_e, Nat.lt_irrefl, Nat.le_refl, Nat.not_lt_zero, Nat.zero_le, n9a, n9b, n9c, n9d, n9e, n9f, n9g, e1, h1, h2, su_hs, ↓reduceIte]
        · simp (disch := omega) only [gi_nI, tn_nI, hs_1, hs_2, hs_3, hs_4, hs_5, hs_6, hs_7, hs_s, hs_m, hs_h, hs_t, lit_nI, nI_add, nI_mul, nI_eq, nI_leI, nI_ltI, nm_i, bd_s, Nat.one_ne_zero, Nat.zero_ne_one, Nat.reduceEqDiff, Nat.reduceLeDiff, Nat.reduceLT, Nat.reduceAdd, Nat.reduceSub, Nat.reduceMul, e10, e01, en1, en2, en3, en4, en6, rq1, rq2, rq3, rq4, rq6, rm1, rm2, rm3, rm4, rm6, fz0, fz1, X5_bound_e, X5_isIn_e, Nat.lt_irrefl, Nat.le_refl, Nat.not_lt_zero, Nat.zero_le, n9a, n9b, n9c, n9d, n9e, n9f, n9g, e2, h1, h2, su_hs, ↓reduceIte]
      · refine ⟨-nI 6, _, rf q 6, rf (hs c GM) 6, ?_, ?_, hQ.ref 6⟩
        · simp (disch := omega) only [gi_nI, tn_nI, hs_1, hs_2, hs_3, hs_4, hs_5, hs_6, hs_7, hs_s, hs_m, hs_h, hs_t, lit_nI, nI_add, nI_mul, nI_eq, nI_leI, nI_ltI, nm_i, bd_s, Nat.one_ne_zero, Nat.zero_ne_one, Nat.reduceEqDiff, Nat.reduceLeDiff, Nat.reduceLT, Nat.reduceAdd, Nat.reduceSub, Nat.reduceMul, e10, e01, en1, en2, en3, en4, en6, rq1, rq2, rq3, rq4, rq6, rm1, rm2, rm3, rm4, rm6, fz0, fz1, X5_bound_e, X5_isIn_e, Nat.lt_irrefl, Nat.le_refl, Nat.not_lt_zero, Nat.zero_le, n9a, n9b, n9c, n9d, n9e, n9f, n9g, e1, h1, h2, ↓reduceIte]
        · simp (disch := omega) only [gi_nI, tn_nI, hs_1, hs_2, hs_3, hs_4, hs_5, hs_6, hs_7, hs_s, hs_m, hs_h, hs_t, lit_nI, nI_add, nI_mul, nI_eq, nI_leI, nI_ltI, nm_i, bd_s, Nat.one_ne_zero, Nat.zero_ne_one, Nat.reduceEqDiff, Nat.reduceLeDiff, Nat.reduceLT, Nat.reduceAdd, Nat.reduceSub, Nat.reduceMul, e10, e01, en1, en2, en3, en4, en6, rq1, rq2, rq3, rq4, rq6, rm1, rm2, rm3, rm4, rm6, fz0, fz1, X5_bound_e, X5_isIn_e, Nat.lt_irrefl, Nat.le_refl, Nat.not_lt_zero, Nat.zero_le, n9a, n9b, n9c, n9d, n9e, n9f, n9g, e2, h1, h2, ↓reduceIte]
    · refine ⟨-nI 4, _, rf q 4, rf (hs c GM) 4, ?_, ?_, hQ.ref 4⟩
      · simp (disch := omega) only [gi_nI, tn_nI, hs_1, hs_2, hs_3, hs_4, hs_5, hs_6, hs_7, hs_s, hs_m, hs_h, hs_t, lit_nI, nI_add, nI_mul, nI_eq, nI_leI, nI_ltI, nm_i, bd_s, Nat.one_ne_zero, Nat.zero_ne_one, Nat.reduceEqDiff, Nat.reduceLeDiff, Nat.reduceLT, Nat.reduceAdd, Nat.reduceSub, Nat.reduceMul, e10, e01, en1, en2, en3, en4, en6, rq1, rq2, rq3, rq4, rq6, rm1, rm2, rm3, rm4, rm6, fz0, fz1, X5_bound_e, X5_isIn_e, Nat.lt_irrefl, Nat.le_refl, Nat.not_lt_zero, Nat.zero_le, n9a, n9b, n9c, n9d, n9e, n9f, n9g, e1, h1, ↓reduceIte]
      · simp (disch := omega) only [gi_nI, tn_nI, hs_1, hs_2, hs_3, hs_4, hs_5, hs_6, hs_7, hs_s, hs_m, hs_h, hs_t, lit_nI, nI_add, nI_mul, nI_eq, nI_leI, nI_ltI, nm_i, bd_s, Nat.one_ne_zero, Nat.zero_ne_one, Nat.reduceEqDiff, Nat.reduceLeDiff, Nat.reduceLT, Nat.reduceAdd, Nat.reduceSub, Nat.reduceMul, e10, e01, en1, en2, en3, en4, en6, rq1, rq2, rq3, rq4, rq6, rm1, rm2, rm3, rm4, rm6, fz0, fz1, X5_bound_e, X5_isIn_e, Nat.lt_irrefl, Nat.le_refl, Nat.not_lt_zero, Nat.zero_le, n9a, n9b, n9c, n9d, n9e, n9f, n9g, e2, h1, ↓reduceIte]
  · obtain ⟨e1, -⟩ := hn Gn
    obtain ⟨-, e2⟩ := hn GM
    refine ⟨-nI 1, _, rf q 1, rf (hs c GM) 1, ?_, ?_, hQ.ref 1⟩
    · simp (disch := omega) only [gi_nI, tn_nI, hs_1, hs_2, hs_3, hs_4, hs_5, hs_6, hs_7, hs_s, hs_m, hs_h, hs_t, lit_nI, nI_add, nI_mul, nI_eq, nI_leI, nI_ltI, nm_i, bd_s, Nat.one_ne_zero, Nat.zero_ne_one, Nat.reduceEqDiff, Nat.reduceLeDiff, Nat.reduceLT, Nat.reduceAdd, Nat.reduceSub, Nat.reduceMul, e10, e01, en1, en2, en3, en4, en6, rq1, rq2, rq3, rq4, rq6, rm1, rm2, rm3, rm4, rm6, fz0, fz1, X5_bound_e, X5_isIn_e, Nat.lt_irrefl, Nat.le_refl, Nat.not_lt_zero, Nat.zero_le, n9a, n9b, n9c, n9d, n9e, n9f, n9g, e1, ↓reduceIte]
    · simp (disch := omega) only [gi_nI, tn_nI, hs_1, hs_2, hs_3, hs_4, hs_5, hs_6, hs_7, hs_s, hs_m, hs_h, hs_t, lit_nI, nI_add, nI_mul, nI_eq, nI_leI, nI_ltI, nm_i, bd_s, Nat.one_ne_zero, Nat.zero_ne_one, Nat.reduceEqDiff, Nat.reduceLeDiff, Nat.reduceLT, Nat.reduceAdd, Nat.reduceSub, Nat.reduceMul, e10, e01, en1, en2, en3, en4, en6, rq1, rq2, rq3, rq4, rq6, rm1, rm2, rm3, rm4, rm6, fz0, fz1, X5_bound_e, X5_isIn_e, Nat.lt_irrefl, Nat.le_refl, Nat.not_lt_zero, Nat.zero_le, n9a, n9b, n9c, n9d, n9e, n9f, n9g, e2, ↓reduceIte]
theorem r_loads {n t k g w z q M : St} (hR : R n t k g w z q M) (p1 p2 : Int32) : ∃ r n' q' M', f_X4_loads n t k g w z q p1 p2 = some (r, n', q') ∧ f_X5_loads M p1 p2 = some (r, M') ∧ R n' t k g w z q' M' := by
  have hQ := hR
  unfold f_X4_loads f_X5_loads
  obtain ⟨c, ct, kc, Gn, Gt, Gk, GM, rfl, rfl, rfl, rfl, hG, hZ, hK, hS⟩ := hR
  have hI := hG.1
  have hN := hI.2.1
  rcases ship_or hI p1 with ⟨m, hm, rfl⟩ | hn
  · have e1 := X0_hasShip (G := Gn) hI (show m < 2147483648 by omega)
    have e2 := X5_isShip (G := GM) hI (show m < 2147483648 by omega)
    rw [if_pos hm] at e1 e2
    by_cases h1 : nI 0 ≤ p2
    · by_cases h2 : p2 ≤ nI 9
      · obtain ⟨v, hv, rfl⟩ := rng (by decide) h1 h2
        refine ⟨nI (c 1 m), hs (gu c 1 m v) Gn, q, hs (gu c 1 m v) GM, ?_, ?_, gu c 1 m v, ct, kc, Gn, Gt, Gk, GM, rfl, rfl, rfl, rfl, Gd_gu hG (by omega) hv (vd3 (by omega) (by omega) (by omega)), hZ, hK, hS⟩
        · simp (disch := omega) only [gi_nI, tn_nI, hs_1, hs_2, hs_3, hs_4, hs_5, hs_6, hs_7, hs_s, hs_m, hs_h, hs_t, lit_nI, nI_add, nI_mul, nI_eq, nI_leI, nI_ltI, nm_i, bd_s, Nat.one_ne_zero, Nat.zero_ne_one, Nat.reduceEqDiff, Nat.reduceLeDiff, Nat.reduceLT, Nat.reduceAdd, Nat.reduceSub, Nat.reduceMul, e10, e01, en1, en2, en3, en4, en6, rq1, rq2, rq3, rq4, rq6, rm1, rm2, rm3, rm4, rm6, fz0, fz1, X5_bound_e, X5_isIn_e, Nat.lt_irrefl, Nat.le_refl, Nat.not_lt_zero, Nat.zero_le, n9a, n9b, n9c, n9d, n9e, n9f, n9g, e1, h1, h2, su_hs, ↓reduceIte]
        · simp (disch := omega) only [gi_nI, tn_nI, hs_1, hs_2, hs_3, hs_4, hs_5, hs_6, hs_7, hs_s, hs_m, hs_h, hs_t, lit_nI, nI_add, nI_mul, nI_eq, nI_leI, nI_ltI, nm_i, bd_s, Nat.one_ne_zero, Nat.zero_ne_one, Nat.reduceEqDiff, Nat.reduceLeDiff, Nat.reduceLT, Nat.reduceAdd, Nat.reduceSub, Nat.reduceMul, e10, e01, en1, en2, en3, en4, en6, rq1, rq2, rq3, rq4, rq6, rm1, rm2, rm3, rm4, rm6, fz0, fz1, X5_bound_e, X5_isIn_e, Nat.lt_irrefl, Nat.le_refl, Nat.not_lt_zero, Nat.zero_le, n9a, n9b, n9c, n9d, n9e, n9f, n9g, e2, h1, h2, su_hs, ↓reduceIte]
      · refine ⟨-nI 6, _, rf q 6, rf (hs c GM) 6, ?_, ?_, hQ.ref 6⟩
        · simp (disch := omega) only [gi_nI, tn_nI, hs_1, hs_2, hs_3, hs_4, hs_5, hs_6, hs_7, hs_s, hs_m, hs_h, hs_t, lit_nI, nI_add, nI_mul, nI_eq, nI_leI, nI_ltI, nm_i, bd_s, Nat.one_ne_zero, Nat.zero_ne_one, Nat.reduceEqDiff, Nat.reduceLeDiff, Nat.reduceLT, Nat.reduceAdd, Nat.reduceSub, Nat.reduceMul, e10, e01, en1, en2, en3, en4, en6, rq1, rq2, rq3, rq4, rq6, rm1, rm2, rm3, rm4, rm6, fz0, fz1, X5_bound_e, X5_isIn_e, Nat.lt_irrefl, Nat.le_refl, Nat.not_lt_zero, Nat.zero_le, n9a, n9b, n9c, n9d, n9e, n9f, n9g, e1, h1, h2, ↓reduceIte]
        · simp (disch := omega) only [gi_nI, tn_nI, hs_1, hs_2, hs_3, hs_4, hs_5, hs_6, hs_7, hs_s, hs_m, hs_h, hs_t, lit_nI, nI_add, nI_mul, nI_eq, nI_leI, nI_ltI, nm_i, bd_s, Nat.one_ne_zero, Nat.zero_ne_one, Nat.reduceEqDiff, Nat.reduceLeDiff, Nat.reduceLT, Nat.reduceAdd, Nat.reduceSub, Nat.reduceMul, e10, e01, en1, en2, en3, en4, en6, rq1, rq2, rq3, rq4, rq6, rm1, rm2, rm3, rm4, rm6, fz0, fz1, X5_bound_e, X5_isIn_e, Nat.lt_irrefl, Nat.le_refl, Nat.not_lt_zero, Nat.zero_le, n9a, n9b, n9c, n9d, n9e, n9f, n9g, e2, h1, h2, ↓reduceIte]
    · refine ⟨-nI 4, _, rf q 4, rf (hs c GM) 4, ?_, ?_, hQ.ref 4⟩
      · simp (disch := omega) only [gi_nI, tn_nI, hs_1, hs_2, hs_3, hs_4, hs_5, hs_6, hs_7, hs_s, hs_m, hs_h, hs_t, lit_nI, nI_add, nI_mul, nI_eq, nI_leI, nI_ltI, nm_i, bd_s, Nat.one_ne_zero, Nat.zero_ne_one, Nat.reduceEqDiff, Nat.reduceLeDiff, Nat.reduceLT, Nat.reduceAdd, Nat.reduceSub, Nat.reduceMul, e10, e01, en1, en2, en3, en4, en6, rq1, rq2, rq3, rq4, rq6, rm1, rm2, rm3, rm4, rm6, fz0, fz1, X5_bound_e, X5_isIn_e, Nat.lt_irrefl, Nat.le_refl, Nat.not_lt_zero, Nat.zero_le, n9a, n9b, n9c, n9d, n9e, n9f, n9g, e1, h1, ↓reduceIte]
      · simp (disch := omega) only [gi_nI, tn_nI, hs_1, hs_2, hs_3, hs_4, hs_5, hs_6, hs_7, hs_s, hs_m, hs_h, hs_t, lit_nI, nI_add, nI_mul, nI_eq, nI_leI, nI_ltI, nm_i, bd_s, Nat.one_ne_zero, Nat.zero_ne_one, Nat.reduceEqDiff, Nat.reduceLeDiff, Nat.reduceLT, Nat.reduceAdd, Nat.reduceSub, Nat.reduceMul, e10, e01, en1, en2, en3, en4, en6, rq1, rq2, rq3, rq4, rq6, rm1, rm2, rm3, rm4, rm6, fz0, fz1, X5_bound_e, X5_isIn_e, Nat.lt_irrefl, Nat.le_refl, Nat.not_lt_zero, Nat.zero_le, n9a, n9b, n9c, n9d, n9e, n9f, n9g, e2, h1, ↓reduceIte]
  · obtain ⟨e1, -⟩ := hn Gn
    obtain ⟨-, e2⟩ := hn GM
    refine ⟨-nI 1, _, rf q 1, rf (hs c GM) 1, ?_, ?_, hQ.ref 1⟩
    · simp (disch := omega) only [gi_nI, tn_nI, hs_1, hs_2, hs_3, hs_4, hs_5, hs_6, hs_7, hs_s, hs_m, hs_h, hs_t, lit_nI, nI_add, nI_mul, nI_eq, nI_leI, nI_ltI, nm_i, bd_s, Nat.one_ne_zero, Nat.zero_ne_one, Nat.reduceEqDiff, Nat.reduceLeDiff, Nat.reduceLT, Nat.reduceAdd, Nat.reduceSub, Nat.reduceMul, e10, e01, en1, en2, en3, en4, en6, rq1, rq2, rq3, rq4, rq6, rm1, rm2, rm3, rm4, rm6, fz0, fz1, X5_bound_e, X5_isIn_e, Nat.lt_irrefl, Nat.le_refl, Nat.not_lt_zero, Nat.zero_le, n9a, n9b, n9c, n9d, n9e, n9f, n9g, e1, ↓reduceIte]
    · simp (disch := omega) only [gi_nI, tn_nI, hs_1, hs_2, hs_3, hs_4, hs_5, hs_6, hs_7, hs_s, hs_m, hs_h, hs_t, lit_nI, nI_add, nI_mul, nI_eq, nI_leI, nI_ltI, nm_i, bd_s, Nat.one_ne_zero, Nat.zero_ne_one, Nat.reduceEqDiff, Nat.reduceLeDiff, Nat.reduceLT, Nat.reduceAdd, Nat.reduceSub, Nat.reduceMul, e10, e01, en1, en2, en3, en4, en6, rq1, rq2, rq3, rq4, rq6, rm1, rm2, rm3, rm4, rm6, fz0, fz1, X5_bound_e, X5_isIn_e, Nat.lt_irrefl, Nat.le_refl, Nat.not_lt_zero, Nat.zero_le, n9a, n9b, n9c, n9d, n9e, n9f, n9g, e2, ↓reduceIte]
theorem r_turn {n t k g w z q M : St} (hR : R n t k g w z q M) (p1 p2 p3 : Int32) : ∃ r n' q' M', f_X4_turn n t k g w z q p1 p2 p3 = some (r, n', q') ∧ f_X5_turn M p1 p2 p3 = some (r, M') ∧ R n' t k g w z q' M' := by
  have hQ := hR
  unfold f_X4_turn f_X5_turn
  obtain ⟨c, ct, kc, Gn, Gt, Gk, GM, rfl, rfl, rfl, rfl, hG, hZ, hK, hS⟩ := hR
  have hI := hG.1
  have hN := hI.2.2.1
  rcases man_or hI p1 with ⟨m, hm, rfl⟩ | hn
  · have e1 := X0_hasMan (G := Gn) hI (show m < 2147483648 by omega)
    have e2 := X5_isMan (G := GM) hI (show m < 2147483648 by omega)
    rw [if_pos hm] at e1 e2
    by_cases k1 : p2 < nI 0
    · refine ⟨-nI 2, _, rf q 2, rf (hs c GM) 2, ?_, ?_, hQ.ref 2⟩
      · simp (disch := omega) only [gi_nI, tn_nI, hs_1, hs_2, hs_3, hs_4, hs_5, hs_6, hs_7, hs_s, hs_m, hs_h, hs_t, lit_nI, nI_add, nI_mul, nI_eq, nI_leI, nI_ltI, nm_i, bd_s, Nat.one_ne_zero, Nat.zero_ne_one, Nat.reduceEqDiff, Nat.reduceLeDiff, Nat.reduceLT, Nat.reduceAdd, Nat.reduceSub, Nat.reduceMul, e10, e01, en1, en2, en3, en4, en6, rq1, rq2, rq3, rq4, rq6, rm1, rm2, rm3, rm4, rm6, fz0, fz1, X5_bound_e, X5_isIn_e, Nat.lt_irrefl, Nat.le_refl, Nat.not_lt_zero, Nat.zero_le, n9a, n9b, n9c, n9d, n9e, n9f, n9g, e1, k1, ↓reduceIte]
      · simp (disch := omega) only [gi_nI, tn_nI, hs_1, hs_2, hs_3, hs_4, hs_5, hs_6, hs_7, hs_s, hs_m, hs_h, hs_t, lit_nI, nI_add, nI_mul, nI_eq, nI_leI, nI_ltI, nm_i, bd_s, Nat.one_ne_zero, Nat.zero_ne_one, Nat.reduceEqDiff, Nat.reduceLeDiff, Nat.reduceLT, Nat.reduceAdd, Nat.reduceSub, Nat.reduceMul, e10, e01, en1, en2, en3, en4, en6, rq1, rq2, rq3, rq4, rq6, rm1, rm2, rm3, rm4, rm6, fz0, fz1, X5_bound_e, X5_isIn_e, Nat.lt_irrefl, Nat.le_refl, Nat.not_lt_zero, Nat.zero_le, n9a, n9b, n9c, n9d, n9e, n9f, n9g, e2, k1, ↓reduceIte]
    · by_cases k2 : nI 5 < p2
      · have k3 : ¬ p2 < nI 6 := by
          rw [Int32.lt_iff_toInt_lt] at k2 ⊢
          have a5 : (nI 5).toInt = 5 := by decide +kernel
          have a6 : (nI 6).toInt = 6 := by decide +kernel
          omega
        refine ⟨-nI 2, _, rf q 2, rf (hs c GM) 2, ?_, ?_, hQ.ref 2⟩
        · simp (disch := omega) only [gi_nI, tn_nI, hs_1, hs_2, hs_3, hs_4, hs_5, hs_6, hs_7, hs_s, hs_m, hs_h, hs_t, lit_nI, nI_add, nI_mul, nI_eq, nI_leI, nI_ltI, nm_i, bd_s, Nat.one_ne_zero, Nat.zero_ne_one, Nat.reduceEqDiff, Nat.reduceLeDiff, Nat.reduceLT, Nat.reduceAdd, Nat.reduceSub, Nat.reduceMul, e10, e01, en1, en2, en3, en4, en6, rq1, rq2, rq3, rq4, rq6, rm1, rm2, rm3, rm4, rm6, fz0, fz1, X5_bound_e, X5_isIn_e, Nat.lt_irrefl, Nat.le_refl, Nat.not_lt_zero, Nat.zero_le, n9a, n9b, n9c, n9d, n9e, n9f, n9g, e1, k1, k3, ↓reduceIte]
        · simp (disch := omega) only [gi_nI, tn_nI, hs_1, hs_2, hs_3, hs_4, hs_5, hs_6, hs_7, hs_s, hs_m, hs_h, hs_t, lit_nI, nI_add, nI_mul, nI_eq, nI_leI, nI_ltI, nm_i, bd_s, Nat.one_ne_zero, Nat.zero_ne_one, Nat.reduceEqDiff, Nat.reduceLeDiff, Nat.reduceLT, Nat.reduceAdd, Nat.reduceSub, Nat.reduceMul, e10, e01, en1, en2, en3, en4, en6, rq1, rq2, rq3, rq4, rq6, rm1, rm2, rm3, rm4, rm6, fz0, fz1, X5_bound_e, X5_isIn_e, Nat.lt_irrefl, Nat.le_refl, Nat.not_lt_zero, Nat.zero_le, n9a, n9b, n9c, n9d, n9e, n9f, n9g, e2, k1, k2, ↓reduceIte]
      · obtain ⟨u, hu, rfl⟩ := rng (b := 5) (by decide) (Int32.not_lt.mp k1) (Int32.not_lt.mp k2)
        have k3 : u < 6 := by omega
        have k4 : ¬ 5 < u := by omega
        by_cases h1 : nI 0 ≤ p3
        · by_cases h2 : p3 ≤ nI 9
          · obtain ⟨v, hv, rfl⟩ := rng (by decide) h1 h2
            have b4 := hI.1 4 m
            have b5 := hI.1 5 m
            refine ⟨nI (10 * c 4 m + c 5 m), hs (gu (gu c 4 m u) 5 m v) Gn, q, hs (gu (gu c 4 m u) 5 m v) GM, ?_, ?_, gu (gu c 4 m u) 5 m v, ct, kc, Gn, Gt, Gk, GM, rfl, rfl, rfl, rfl, Gd_gu (Gd_gu4 hG hu (by omega)) (by omega) hv (vd7 (by omega) (by omega) (by omega)), hZ, hK, hS⟩
            · simp (disch := omega) only [gi_nI, tn_nI, hs_1, hs_2, hs_3, hs_4, hs_5, hs_6, hs_7, hs_s, hs_m, hs_h, hs_t, lit_nI, nI_add, nI_mul, nI_eq, nI_leI, nI_ltI, nm_i, bd_s, Nat.one_ne_zero, Nat.zero_ne_one, Nat.reduceEqDiff, Nat.reduceLeDiff, Nat.reduceLT, Nat.reduceAdd, Nat.reduceSub, Nat.reduceMul, e10, e01, en1, en2, en3, en4, en6, rq1, rq2, rq3, rq4, rq6, rm1, rm2, rm3, rm4, rm6, fz0, fz1, X5_bound_e, X5_isIn_e, Nat.lt_irrefl, Nat.le_refl, Nat.not_lt_zero, Nat.zero_le, n9a, n9b, n9c, n9d, n9e, n9f, n9g, e1, hv, k3, su_hs, ↓reduceIte]
            · simp (disch := omega) only [gi_nI, tn_nI, hs_1, hs_2, hs_3, hs_4, hs_5, hs_6, hs_7, hs_s, hs_m, hs_h, hs_t, lit_nI, nI_add, nI_mul, nI_eq, nI_leI, nI_ltI, nm_i, bd_s, Nat.one_ne_zero, Nat.zero_ne_one, Nat.reduceEqDiff, Nat.reduceLeDiff, Nat.reduceLT, Nat.reduceAdd, Nat.reduceSub, Nat.reduceMul, e10, e01, en1, en2, en3, en4, en6, rq1, rq2, rq3, rq4, rq6, rm1, rm2, rm3, rm4, rm6, fz0, fz1, X5_bound_e, X5_isIn_e, Nat.lt_irrefl, Nat.le_refl, Nat.not_lt_zero, Nat.zero_le, n9a, n9b, n9c, n9d, n9e, n9f, n9g, e2, hv, k3, k4, su_hs, ↓reduceIte]
          · refine ⟨-nI 6, _, rf q 6, rf (hs c GM) 6, ?_, ?_, hQ.ref 6⟩
            · simp (disch := omega) only [gi_nI, tn_nI, hs_1, hs_2, hs_3, hs_4, hs_5, hs_6, hs_7, hs_s, hs_m, hs_h, hs_t, lit_nI, nI_add, nI_mul, nI_eq, nI_leI, nI_ltI, nm_i, bd_s, Nat.one_ne_zero, Nat.zero_ne_one, Nat.reduceEqDiff, Nat.reduceLeDiff, Nat.reduceLT, Nat.reduceAdd, Nat.reduceSub, Nat.reduceMul, e10, e01, en1, en2, en3, en4, en6, rq1, rq2, rq3, rq4, rq6, rm1, rm2, rm3, rm4, rm6, fz0, fz1, X5_bound_e, X5_isIn_e, Nat.lt_irrefl, Nat.le_refl, Nat.not_lt_zero, Nat.zero_le, n9a, n9b, n9c, n9d, n9e, n9f, n9g, e1, k3, k4, h1, h2, ↓reduceIte]
            · simp (disch := omega) only [gi_nI, tn_nI, hs_1, hs_2, hs_3, hs_4, hs_5, hs_6, hs_7, hs_s, hs_m, hs_h, hs_t, lit_nI, nI_add, nI_mul, nI_eq, nI_leI, nI_ltI, nm_i, bd_s, Nat.one_ne_zero, Nat.zero_ne_one, Nat.reduceEqDiff, Nat.reduceLeDiff, Nat.reduceLT, Nat.reduceAdd, Nat.reduceSub, Nat.reduceMul, e10, e01, en1, en2, en3, en4, en6, rq1, rq2, rq3, rq4, rq6, rm1, rm2, rm3, rm4, rm6, fz0, fz1, X5_bound_e, X5_isIn_e, Nat.lt_irrefl, Nat.le_refl, Nat.not_lt_zero, Nat.zero_le, n9a, n9b, n9c, n9d, n9e, n9f, n9g, e2, k3, k4, h1, h2, ↓reduceIte]
        · refine ⟨-nI 4, _, rf q 4, rf (hs c GM) 4, ?_, ?_, hQ.ref 4⟩
          · simp (disch := omega) only [gi_nI, tn_nI, hs_1, hs_2, hs_3, hs_4, hs_5, hs_6, hs_7, hs_s, hs_m, hs_h, hs_t, lit_nI, nI_add, nI_mul, nI_eq, nI_leI, nI_ltI, nm_i, bd_s, Nat.one_ne_zero, Nat.zero_ne_one, Nat.reduceEqDiff, Nat.reduceLeDiff, Nat.reduceLT, Nat.reduceAdd, Nat.reduceSub, Nat.reduceMul, e10, e01, en1, en2, en3, en4, en6, rq1, rq2, rq3, rq4, rq6, rm1, rm2, rm3, rm4, rm6, fz0, fz1, X5_bound_e, X5_isIn_e, Nat.lt_irrefl, Nat.le_refl, Nat.not_lt_zero, Nat.zero_le, n9a, n9b, n9c, n9d, n9e, n9f, n9g, e1, k3, k4, h1, ↓reduceIte]
          · simp (disch := omega) only [gi_nI, tn_nI, hs_1, hs_2, hs_3, hs_4, hs_5, hs_6, hs_7, hs_s, hs_m, hs_h, hs_t, lit_nI, nI_add, nI_mul, nI_eq, nI_leI, nI_ltI, nm_i, bd_s, Nat.one_ne_zero, Nat.zero_ne_one, Nat.reduceEqDiff, Nat.reduceLeDiff, Nat.reduceLT, Nat.reduceAdd, Nat.reduceSub, Nat.reduceMul, e10, e01, en1, en2, en3, en4, en6, rq1, rq2, rq3, rq4, rq6, rm1, rm2, rm3, rm4, rm6, fz0, fz1, X5_bound_e, X5_isIn_e, Nat.lt_irrefl, Nat.le_refl, Nat.not_lt_zero, Nat.zero_le, n9a, n9b, n9c, n9d, n9e, n9f, n9g, e2, k3, k4, h1, ↓reduceIte]
  · obtain ⟨e1, -⟩ := hn Gn
    obtain ⟨-, e2⟩ := hn GM
    refine ⟨-nI 1, _, rf q 1, rf (hs c GM) 1, ?_, ?_, hQ.ref 1⟩
    · simp (disch := omega) only [gi_nI, tn_nI, hs_1, hs_2, hs_3, hs_4, hs_5, hs_6, hs_7, hs_s, hs_m, hs_h, hs_t, lit_nI, nI_add, nI_mul, nI_eq, nI_leI, nI_ltI, nm_i, bd_s, Nat.one_ne_zero, Nat.zero_ne_one, Nat.reduceEqDiff, Nat.reduceLeDiff, Nat.reduceLT, Nat.reduceAdd, Nat.reduceSub, Nat.reduceMul, e10, e01, en1, en2, en3, en4, en6, rq1, rq2, rq3, rq4, rq6, rm1, rm2, rm3, rm4, rm6, fz0, fz1, X5_bound_e, X5_isIn_e, Nat.lt_irrefl, Nat.le_refl, Nat.not_lt_zero, Nat.zero_le, n9a, n9b, n9c, n9d, n9e, n9f, n9g, e1, ↓reduceIte]
    · simp (disch := omega) only [gi_nI, tn_nI, hs_1, hs_2, hs_3, hs_4, hs_5, hs_6, hs_7, hs_s, hs_m, hs_h, hs_t, lit_nI, nI_add, nI_mul, nI_eq, nI_leI, nI_ltI, nm_i, bd_s, Nat.one_ne_zero, Nat.zero_ne_one, Nat.reduceEqDiff, Nat.reduceLeDiff, Nat.reduceLT, Nat.reduceAdd, Nat.reduceSub, Nat.reduceMul, e10, e01, en1, en2, en3, en4, en6, rq1, rq2, rq3, rq4, rq6, rm1, rm2, rm3, rm4, rm6, fz0, fz1, X5_bound_e, X5_isIn_e, Nat.lt_irrefl, Nat.le_refl, Nat.not_lt_zero, Nat.zero_le, n9a, n9b, n9c, n9d, n9e, n9f, n9g, e2, ↓reduceIte]
theorem r_tides {n t k g w z q M : St} (hR : R n t k g w z q M) (p1 : Int32) : ∃ r n' q' M', f_X4_tides n t k g w z q p1 = some (r, n', q') ∧ f_X5_tides M p1 = some (r, M') ∧ R n' t k g w z q' M' := by
  have hQ := hR
  unfold f_X4_tides f_X5_tides
  obtain ⟨c, ct, kc, Gn, Gt, Gk, GM, rfl, rfl, rfl, rfl, hG, hZ, hK, hS⟩ := hR
  have hI := hG.1
  have hT := hG.2.2.2.1
  by_cases h1 : nI 1 ≤ p1
  · by_cases h2 : p1 ≤ nI 60
    · obtain ⟨v, hv1, hv, rfl⟩ := rng1 (by decide) (by decide) h1 h2
      have h2' : ¬ 60 < v := by omega
      have eT := X0_hasTidesLeft (G := Gn) (n := v) hT (by omega)
      by_cases h3 : c 16 3 + v ≤ 999
      · have h4 : ¬ 999 - c 16 3 < v := by omega
        rw [if_neg h4] at eT
        have hG2 := Gd_tds hG h3
        have e5 := X0_passTides (G := Gn) (n := v) hI (by omega) (by omega)
        have e6 := X5_goes (G := GM) (n := v) hI (by omega) (by omega)
        have e7 := X0_outBits (G := Gn) hG2.1
        have e8 := X5_outOnes (G := GM) hG2.1
        refine ⟨ouB (tds c v), hs (tds c v) Gn, q, hs (tds c v) GM, ?_, ?_, tds c v, ct, kc, Gn, Gt, Gk, GM, rfl, rfl, rfl, rfl, hG2, hZ, hK, hS⟩
        · simp (disch := omega) only [gi_nI, tn_nI, hs_1, hs_2, hs_3, hs_4, hs_5, hs_6, hs_7, hs_s, hs_m, hs_h, hs_t, lit_nI, nI_add, nI_mul, nI_eq, nI_leI, nI_ltI, nm_i, bd_s, Nat.one_ne_zero, Nat.zero_ne_one, Nat.reduceEqDiff, Nat.reduceLeDiff, Nat.reduceLT, Nat.reduceAdd, Nat.reduceSub, Nat.reduceMul, e10, e01, en1, en2, en3, en4, en6, rq1, rq2, rq3, rq4, rq6, rm1, rm2, rm3, rm4, rm6, fz0, fz1, X5_bound_e, X5_isIn_e, Nat.lt_irrefl, Nat.le_refl, Nat.not_lt_zero, Nat.zero_le, n9a, n9b, n9c, n9d, n9e, n9f, n9g, hv1, h2', eT, e5, e7, ↓reduceIte]
        · simp (disch := omega) only [gi_nI, tn_nI, hs_1, hs_2, hs_3, hs_4, hs_5, hs_6, hs_7, hs_s, hs_m, hs_h, hs_t, lit_nI, nI_add, nI_mul, nI_eq, nI_leI, nI_ltI, nm_i, bd_s, Nat.one_ne_zero, Nat.zero_ne_one, Nat.reduceEqDiff, Nat.reduceLeDiff, Nat.reduceLT, Nat.reduceAdd, Nat.reduceSub, Nat.reduceMul, e10, e01, en1, en2, en3, en4, en6, rq1, rq2, rq3, rq4, rq6, rm1, rm2, rm3, rm4, rm6, fz0, fz1, X5_bound_e, X5_isIn_e, Nat.lt_irrefl, Nat.le_refl, Nat.not_lt_zero, Nat.zero_le, n9a, n9b, n9c, n9d, n9e, n9f, n9g, hv1, hv, h3, e6, e8, ↓reduceIte]
      · have h4 : 999 - c 16 3 < v := by omega
        rw [if_pos h4] at eT
        refine ⟨-nI 6, _, rf q 6, rf (hs c GM) 6, ?_, ?_, hQ.ref 6⟩
        · simp (disch := omega) only [gi_nI, tn_nI, hs_1, hs_2, hs_3, hs_4, hs_5, hs_6, hs_7, hs_s, hs_m, hs_h, hs_t, lit_nI, nI_add, nI_mul, nI_eq, nI_leI, nI_ltI, nm_i, bd_s, Nat.one_ne_zero, Nat.zero_ne_one, Nat.reduceEqDiff, Nat.reduceLeDiff, Nat.reduceLT, Nat.reduceAdd, Nat.reduceSub, Nat.reduceMul, e10, e01, en1, en2, en3, en4, en6, rq1, rq2, rq3, rq4, rq6, rm1, rm2, rm3, rm4, rm6, fz0, fz1, X5_bound_e, X5_isIn_e, Nat.lt_irrefl, Nat.le_refl, Nat.not_lt_zero, Nat.zero_le, n9a, n9b, n9c, n9d, n9e, n9f, n9g, hv1, h2', eT, ↓reduceIte]
        · simp (disch := omega) only [gi_nI, tn_nI, hs_1, hs_2, hs_3, hs_4, hs_5, hs_6, hs_7, hs_s, hs_m, hs_h, hs_t, lit_nI, nI_add, nI_mul, nI_eq, nI_leI, nI_ltI, nm_i, bd_s, Nat.one_ne_zero, Nat.zero_ne_one, Nat.reduceEqDiff, Nat.reduceLeDiff, Nat.reduceLT, Nat.reduceAdd, Nat.reduceSub, Nat.reduceMul, e10, e01, en1, en2, en3, en4, en6, rq1, rq2, rq3, rq4, rq6, rm1, rm2, rm3, rm4, rm6, fz0, fz1, X5_bound_e, X5_isIn_e, Nat.lt_irrefl, Nat.le_refl, Nat.not_lt_zero, Nat.zero_le, n9a, n9b, n9c, n9d, n9e, n9f, n9g, hv1, hv, h3, ↓reduceIte]
    · have h2' : nI 60 < p1 := Int32.not_le.mp h2
      refine ⟨-nI 6, _, rf q 6, rf (hs c GM) 6, ?_, ?_, hQ.ref 6⟩
      · simp (disch := omega) only [gi_nI, tn_nI, hs_1, hs_2, hs_3, hs_4, hs_5, hs_6, hs_7, hs_s, hs_m, hs_h, hs_t, lit_nI, nI_add, nI_mul, nI_eq, nI_leI, nI_ltI, nm_i, bd_s, Nat.one_ne_zero, Nat.zero_ne_one, Nat.reduceEqDiff, Nat.reduceLeDiff, Nat.reduceLT, Nat.reduceAdd, Nat.reduceSub, Nat.reduceMul, e10, e01, en1, en2, en3, en4, en6, rq1, rq2, rq3, rq4, rq6, rm1, rm2, rm3, rm4, rm6, fz0, fz1, X5_bound_e, X5_isIn_e, Nat.lt_irrefl, Nat.le_refl, Nat.not_lt_zero, Nat.zero_le, n9a, n9b, n9c, n9d, n9e, n9f, n9g, h1, h2', ↓reduceIte]
      · simp (disch := omega) only [gi_nI, tn_nI, hs_1, hs_2, hs_3, hs_4, hs_5, hs_6, hs_7, hs_s, hs_m, hs_h, hs_t, lit_nI, nI_add, nI_mul, nI_eq, nI_leI, nI_ltI, nm_i, bd_s, Nat.one_ne_zero, Nat.zero_ne_one, Nat.reduceEqDiff, Nat.reduceLeDiff, Nat.reduceLT, Nat.reduceAdd, Nat.reduceSub, Nat.reduceMul, e10, e01, en1, en2, en3, en4, en6, rq1, rq2, rq3, rq4, rq6, rm1, rm2, rm3, rm4, rm6, fz0, fz1, X5_bound_e, X5_isIn_e, Nat.lt_irrefl, Nat.le_refl, Nat.not_lt_zero, Nat.zero_le, n9a, n9b, n9c, n9d, n9e, n9f, n9g, h1, h2, ↓reduceIte]
  · refine ⟨-nI 4, _, rf q 4, rf (hs c GM) 4, ?_, ?_, hQ.ref 4⟩
    · simp (disch := omega) only [gi_nI, tn_nI, hs_1, hs_2, hs_3, hs_4, hs_5, hs_6, hs_7, hs_s, hs_m, hs_h, hs_t, lit_nI, nI_add, nI_mul, nI_eq, nI_leI, nI_ltI, nm_i, bd_s, Nat.one_ne_zero, Nat.zero_ne_one, Nat.reduceEqDiff, Nat.reduceLeDiff, Nat.reduceLT, Nat.reduceAdd, Nat.reduceSub, Nat.reduceMul, e10, e01, en1, en2, en3, en4, en6, rq1, rq2, rq3, rq4, rq6, rm1, rm2, rm3, rm4, rm6, fz0, fz1, X5_bound_e, X5_isIn_e, Nat.lt_irrefl, Nat.le_refl, Nat.not_lt_zero, Nat.zero_le, n9a, n9b, n9c, n9d, n9e, n9f, n9g, h1, ↓reduceIte]
    · simp (disch := omega) only [gi_nI, tn_nI, hs_1, hs_2, hs_3, hs_4, hs_5, hs_6, hs_7, hs_s, hs_m, hs_h, hs_t, lit_nI, nI_add, nI_mul, nI_eq, nI_leI, nI_ltI, nm_i, bd_s, Nat.one_ne_zero, Nat.zero_ne_one, Nat.reduceEqDiff, Nat.reduceLeDiff, Nat.reduceLT, Nat.reduceAdd, Nat.reduceSub, Nat.reduceMul, e10, e01, en1, en2, en3, en4, en6, rq1, rq2, rq3, rq4, rq6, rm1, rm2, rm3, rm4, rm6, fz0, fz1, X5_bound_e, X5_isIn_e, Nat.lt_irrefl, Nat.le_refl, Nat.not_lt_zero, Nat.zero_le, n9a, n9b, n9c, n9d, n9e, n9f, n9g, h1, ↓reduceIte]
