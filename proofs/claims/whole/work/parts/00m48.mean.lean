/-! TWO, MEAN -/
theorem r_two {n t k g w z q M : St} (hR : R n t k g w z q M) (p1 p2 : Int32) : ∃ r t' q' M', f_X4_two n t k g w z q p1 p2 = some (r, t', q') ∧ f_X5_two M p1 p2 = some (r, M') ∧ R n t' k g w z q' M' := by
  have hQ := hR
  obtain ⟨c, ct, kc, Gn, Gt, Gk, GM, rfl, rfl, rfl, rfl, hG, hZ, hK, hS⟩ := hR
  have hI := hG.1
  have hN := hI.2.2.1
  rcases man_or hI p1 with ⟨a, ha, rfl⟩ | hn
  · have e1 := X0_hasMan (G := Gn) hI (show a < 2147483648 by omega)
    have e2 := X5_isMan (G := GM) hI (show a < 2147483648 by omega)
    rw [if_pos ha] at e1 e2
    rcases man_or hI p2 with ⟨b, hb, rfl⟩ | hn2
    · have e3 := X0_hasMan (G := Gn) hI (show b < 2147483648 by omega)
      have e4 := X5_isMan (G := GM) hI (show b < 2147483648 by omega)
      rw [if_pos hb] at e3 e4
      by_cases hab : a = b
      · refine ⟨-nI 1, _, rf q 1, rf (hs c GM) 1, ?_, ?_, hQ.ref 1⟩
        · unfold f_X4_two
          simp (disch := omega) only [gi_nI, tn_nI, hs_1, hs_2, hs_3, hs_4, hs_5, hs_6, hs_7, hs_s, hs_m, hs_h, hs_t, lit_nI, nI_add, nI_mul, nI_eq, nI_leI, nI_ltI, nm_j, bd_j, Nat.one_ne_zero, Nat.zero_ne_one, Nat.reduceEqDiff, Nat.reduceLeDiff, Nat.reduceLT, Nat.reduceAdd, Nat.reduceSub, Nat.reduceMul, e10, e01, en1, en2, en3, en4, en6, rq1, rq2, rq3, rq4, rq6, rm1, rm2, rm3, rm4, rm6, fz0, fz1, X5_bound_e, X5_isIn_e, Nat.lt_irrefl, Nat.le_refl, Nat.not_lt_zero, Nat.zero_le, n9a, n9b, n9c, n9d, n9e, n9f, n9g, e1, e3, hab, ↓reduceIte]
        · unfold f_X5_two
          simp (disch := omega) only [gi_nI, tn_nI, hs_1, hs_2, hs_3, hs_4, hs_5, hs_6, hs_7, hs_s, hs_m, hs_h, hs_t, lit_nI, nI_add, nI_mul, nI_eq, nI_leI, nI_ltI, nm_j, bd_j, Nat.one_ne_zero, Nat.zero_ne_one, Nat.reduceEqDiff, Nat.reduceLeDiff, Nat.reduceLT, Nat.reduceAdd, Nat.reduceSub, Nat.reduceMul, e10, e01, en1, en2, en3, en4, en6, rq1, rq2, rq3, rq4, rq6, rm1, rm2, rm3, rm4, rm6, fz0, fz1, X5_bound_e, X5_isIn_e, Nat.lt_irrefl, Nat.le_refl, Nat.not_lt_zero, Nat.zero_le, n9a, n9b, n9c, n9d, n9e, n9f, n9g, e2, e4, hab, ↓reduceIte]
      · rcases tell_or hI (show a < 2147483648 by omega) with ⟨hx, ht⟩ | ⟨hx, ht⟩
        · have e5 := (ht Gn).1
          have e6 := (ht GM).2
          rcases tell_or hI (show b < 2147483648 by omega) with ⟨hx2, ht2⟩ | ⟨hx2, ht2⟩
          · obtain ⟨_, a1, d, ⟨v, rfl, hv⟩, a2⟩ := X4_two (Gn := Gn) (Gt := Gt) (k := hs kc Gk) (g := g) (w := w) (z := z) (q := q) hG hZ hx hx2 hab
            obtain ⟨G', a3, a4⟩ := X5_two hG hS hx hx2 hab hv
            exact ⟨v, _, q, _, a1, a3, c, d, kc, Gn, Gt, Gk, G', rfl, rfl, rfl, rfl, hG, a2, hK, a4⟩
          · have e7 := (ht2 Gn).1
            have e8 := (ht2 GM).2
            refine ⟨-nI 3, _, rf q 3, rf (hs c GM) 3, ?_, ?_, hQ.ref 3⟩
            · unfold f_X4_two
              simp (disch := omega) only [gi_nI, tn_nI, hs_1, hs_2, hs_3, hs_4, hs_5, hs_6, hs_7, hs_s, hs_m, hs_h, hs_t, lit_nI, nI_add, nI_mul, nI_eq, nI_leI, nI_ltI, nm_j, bd_j, Nat.one_ne_zero, Nat.zero_ne_one, Nat.reduceEqDiff, Nat.reduceLeDiff, Nat.reduceLT, Nat.reduceAdd, Nat.reduceSub, Nat.reduceMul, e10, e01, en1, en2, en3, en4, en6, rq1, rq2, rq3, rq4, rq6, rm1, rm2, rm3, rm4, rm6, fz0, fz1, X5_bound_e, X5_isIn_e, Nat.lt_irrefl, Nat.le_refl, Nat.not_lt_zero, Nat.zero_le, n9a, n9b, n9c, n9d, n9e, n9f, n9g, e1, e3, hab, e5, e7, ↓reduceIte]
            · unfold f_X5_two
              simp (disch := omega) only [gi_nI, tn_nI, hs_1, hs_2, hs_3, hs_4, hs_5, hs_6, hs_7, hs_s, hs_m, hs_h, hs_t, lit_nI, nI_add, nI_mul, nI_eq, nI_leI, nI_ltI, nm_j, bd_j, Nat.one_ne_zero, Nat.zero_ne_one, Nat.reduceEqDiff, Nat.reduceLeDiff, Nat.reduceLT, Nat.reduceAdd, Nat.reduceSub, Nat.reduceMul, e10, e01, en1, en2, en3, en4, en6, rq1, rq2, rq3, rq4, rq6, rm1, rm2, rm3, rm4, rm6, fz0, fz1, X5_bound_e, X5_isIn_e, Nat.lt_irrefl, Nat.le_refl, Nat.not_lt_zero, Nat.zero_le, n9a, n9b, n9c, n9d, n9e, n9f, n9g, e2, e4, hab, e6, e8, ↓reduceIte]
        · have e5 := (ht Gn).1
          have e6 := (ht GM).2
          refine ⟨-nI 3, _, rf q 3, rf (hs c GM) 3, ?_, ?_, hQ.ref 3⟩
          · unfold f_X4_two
            simp (disch := omega) only [gi_nI, tn_nI, hs_1, hs_2, hs_3, hs_4, hs_5, hs_6, hs_7, hs_s, hs_m, hs_h, hs_t, lit_nI, nI_add, nI_mul, nI_eq, nI_leI, nI_ltI, nm_j, bd_j, Nat.one_ne_zero, Nat.zero_ne_one, Nat.reduceEqDiff, Nat.reduceLeDiff, Nat.reduceLT, Nat.reduceAdd, Nat.reduceSub, Nat.reduceMul, e10, e01, en1, en2, en3, en4, en6, rq1, rq2, rq3, rq4, rq6, rm1, rm2, rm3, rm4, rm6, fz0, fz1, X5_bound_e, X5_isIn_e, Nat.lt_irrefl, Nat.le_refl, Nat.not_lt_zero, Nat.zero_le, n9a, n9b, n9c, n9d, n9e, n9f, n9g, e1, e3, hab, e5, ↓reduceIte]
          · unfold f_X5_two
            simp (disch := omega) only [gi_nI, tn_nI, hs_1, hs_2, hs_3, hs_4, hs_5, hs_6, hs_7, hs_s, hs_m, hs_h, hs_t, lit_nI, nI_add, nI_mul, nI_eq, nI_leI, nI_ltI, nm_j, bd_j, Nat.one_ne_zero, Nat.zero_ne_one, Nat.reduceEqDiff, Nat.reduceLeDiff, Nat.reduceLT, Nat.reduceAdd, Nat.reduceSub, Nat.reduceMul, e10, e01, en1, en2, en3, en4, en6, rq1, rq2, rq3, rq4, rq6, rm1, rm2, rm3, rm4, rm6, fz0, fz1, X5_bound_e, X5_isIn_e, Nat.lt_irrefl, Nat.le_refl, Nat.not_lt_zero, Nat.zero_le, n9a, n9b, n9c, n9d, n9e, n9f, n9g, e2, e4, hab, e6, ↓reduceIte]
    · obtain ⟨e3, -⟩ := hn2 Gn
      obtain ⟨-, e4⟩ := hn2 GM
      refine ⟨-nI 1, _, rf q 1, rf (hs c GM) 1, ?_, ?_, hQ.ref 1⟩
      · unfold f_X4_two
        simp (disch := omega) only [gi_nI, tn_nI, hs_1, hs_2, hs_3, hs_4, hs_5, hs_6, hs_7, hs_s, hs_m, hs_h, hs_t, lit_nI, nI_add, nI_mul, nI_eq, nI_leI, nI_ltI, nm_j, bd_j, Nat.one_ne_zero, Nat.zero_ne_one, Nat.reduceEqDiff, Nat.reduceLeDiff, Nat.reduceLT, Nat.reduceAdd, Nat.reduceSub, Nat.reduceMul, e10, e01, en1, en2, en3, en4, en6, rq1, rq2, rq3, rq4, rq6, rm1, rm2, rm3, rm4, rm6, fz0, fz1, X5_bound_e, X5_isIn_e, Nat.lt_irrefl, Nat.le_refl, Nat.not_lt_zero, Nat.zero_le, n9a, n9b, n9c, n9d, n9e, n9f, n9g, e1, e3, ↓reduceIte]
      · unfold f_X5_two
        simp (disch := omega) only [gi_nI, tn_nI, hs_1, hs_2, hs_3, hs_4, hs_5, hs_6, hs_7, hs_s, hs_m, hs_h, hs_t, lit_nI, nI_add, nI_mul, nI_eq, nI_leI, nI_ltI, nm_j, bd_j, Nat.one_ne_zero, Nat.zero_ne_one, Nat.reduceEqDiff, Nat.reduceLeDiff, Nat.reduceLT, Nat.reduceAdd, Nat.reduceSub, Nat.reduceMul, e10, e01, en1, en2, en3, en4, en6, rq1, rq2, rq3, rq4, rq6, rm1, rm2, rm3, rm4, rm6, fz0, fz1, X5_bound_e, X5_isIn_e, Nat.lt_irrefl, Nat.le_refl, Nat.not_lt_zero, Nat.zero_le, n9a, n9b, n9c, n9d, n9e, n9f, n9g, e2, e4, ↓reduceIte]
  · obtain ⟨e1, -⟩ := hn Gn
    obtain ⟨-, e2⟩ := hn GM
    refine ⟨-nI 1, _, rf q 1, rf (hs c GM) 1, ?_, ?_, hQ.ref 1⟩
    · unfold f_X4_two
      simp (disch := omega) only [gi_nI, tn_nI, hs_1, hs_2, hs_3, hs_4, hs_5, hs_6, hs_7, hs_s, hs_m, hs_h, hs_t, lit_nI, nI_add, nI_mul, nI_eq, nI_leI, nI_ltI, nm_j, bd_j, Nat.one_ne_zero, Nat.zero_ne_one, Nat.reduceEqDiff, Nat.reduceLeDiff, Nat.reduceLT, Nat.reduceAdd, Nat.reduceSub, Nat.reduceMul, e10, e01, en1, en2, en3, en4, en6, rq1, rq2, rq3, rq4, rq6, rm1, rm2, rm3, rm4, rm6, fz0, fz1, X5_bound_e, X5_isIn_e, Nat.lt_irrefl, Nat.le_refl, Nat.not_lt_zero, Nat.zero_le, n9a, n9b, n9c, n9d, n9e, n9f, n9g, e1, ↓reduceIte]
    · unfold f_X5_two
      simp (disch := omega) only [gi_nI, tn_nI, hs_1, hs_2, hs_3, hs_4, hs_5, hs_6, hs_7, hs_s, hs_m, hs_h, hs_t, lit_nI, nI_add, nI_mul, nI_eq, nI_leI, nI_ltI, nm_j, bd_j, Nat.one_ne_zero, Nat.zero_ne_one, Nat.reduceEqDiff, Nat.reduceLeDiff, Nat.reduceLT, Nat.reduceAdd, Nat.reduceSub, Nat.reduceMul, e10, e01, en1, en2, en3, en4, en6, rq1, rq2, rq3, rq4, rq6, rm1, rm2, rm3, rm4, rm6, fz0, fz1, X5_bound_e, X5_isIn_e, Nat.lt_irrefl, Nat.le_refl, Nat.not_lt_zero, Nat.zero_le, n9a, n9b, n9c, n9d, n9e, n9f, n9g, e2, ↓reduceIte]
/-! least terms -/
/-- Euclid's way from (a, b) ends within d steps -/
def en : Nat → Nat → Nat → Prop
  | 0, _, b => b = 0
  | d + 1, a, b => b = 0 ∨ en d b (a % b)
theorem en_up : ∀ d a b, en d a b → en (d + 1) a b
  | 0, _, _, h => Or.inl h
  | d + 1, a, b, h => by
    rcases h with h | h
    · exact Or.inl h
    · exact Or.inr (en_up d b (a % b) h)
theorem en_of : ∀ k a b, b < 2 ^ k → en (2 * k) a b
  | 0, a, b, h => by
    show b = 0
    omega
  | k + 1, a, b, h => by
    show en (2 * k + 1 + 1) a b
    by_cases hb : b = 0
    · exact Or.inl hb
    · refine Or.inr ?_
      by_cases hr : a % b = 0
      · exact Or.inl hr
      · refine Or.inr (en_of k _ _ ?_)
        have h1 : a % b < b := Nat.mod_lt _ (by omega)
        have h2 : b % (a % b) < a % b := Nat.mod_lt _ (by omega)
        have h3 := Nat.div_add_mod b (a % b)
        have h4 : 1 ≤ b / (a % b) := (Nat.le_div_iff_mul_le (by omega)).mpr (by omega)
        have h5 : a % b * 1 ≤ a % b * (b / (a % b)) := Nat.mul_le_mul_left _ h4
        rw [Nat.pow_succ] at h
        omega
theorem gcd_st {a b : Nat} : Nat.gcd b (a % b) = Nat.gcd a b := by
  rw [Nat.gcd_comm a b, Nat.gcd_rec b a, Nat.gcd_comm]
theorem l00 : (0 : Int64) = lN 0 := rfl
theorem X4_cd {a b : Nat} (ha : a < 2 ^ 62) (hb : b < 2 ^ 62) : f_X4_commonDivisor (lN a) (lN b) = some (lN (Nat.gcd a b)) := by
  unfold f_X4_commonDivisor
  refine lp_k (fun d t s => ∃ i, s = (lN t.1, lN t.2, nI i) ∧ i + d ≤ 200 ∧ t.1 < 2 ^ 62 ∧ t.2 < 2 ^ 62 ∧ en d t.1 t.2) (fun d t => some (lN (Nat.gcd t.1 t.2))) (fun d t s hs1 => ?_) (fun t s hs1 nx => ?_) (2 * 62) (a, b) _ 1000 ⟨0, rfl, by decide, ha, hb, en_of 62 a b hb⟩ (by decide)
  · obtain ⟨a, b⟩ := t
    obtain ⟨i, rfl, h1, h2, h3, h4⟩ := hs1
    dsimp only at h1 h2 h3 h4 ⊢
    have h5 : ¬ 200 ≤ i := by omega
    by_cases hb0 : b = 0
    · left
      intro nx
      have e : lg_cmp (lN b) 0 = nI 0 := (lg_cmp_eq _ _).mpr (by rw [hb0]; rfl)
      rw [hb0, Nat.gcd_zero_right]
      rw [hb0] at e
      simp (disch := omega) only [gi_nI, tn_nI, hs_1, hs_2, hs_3, hs_4, hs_5, hs_6, hs_7, hs_s, hs_m, hs_h, hs_t, lit_nI, nI_add, nI_mul, nI_eq, nI_leI, nI_ltI, nm_j, bd_j, Nat.one_ne_zero, Nat.zero_ne_one, Nat.reduceEqDiff, Nat.reduceLeDiff, Nat.reduceLT, Nat.reduceAdd, Nat.reduceSub, Nat.reduceMul, e10, e01, en1, en2, en3, en4, en6, rq1, rq2, rq3, rq4, rq6, rm1, rm2, rm3, rm4, rm6, fz0, fz1, X5_bound_e, X5_isIn_e, Nat.lt_irrefl, Nat.le_refl, Nat.not_lt_zero, Nat.zero_le, n9a, n9b, n9c, n9d, n9e, n9f, n9g, h5, ↓reduceIte]
      rw [if_pos e]
    · right
      have e : ¬ lg_cmp (lN b) 0 = nI 0 := fun z => by
        have := (lg_cmp_eq _ _).mp z
        rw [l00, pk_lEQ (by omega) (by omega)] at this
        exact hb0 this
      have e2 : ¬ lN b = 0 := fun z => by
        rw [l00, pk_lEQ (by omega) (by omega)] at z
        exact hb0 z
      have hm : a % b < b := Nat.mod_lt _ (by omega)
      refine ⟨(b, a % b), _, ⟨i + 1, rfl, by omega, h3, by dsimp only; omega, ?_⟩, ?_, fun nx => ?_⟩
      · rcases h4 with h | h
        · exact absurd h hb0
        · exact h
      · dsimp only
        rw [gcd_st]
      · have er := pk_lRem (a := a) (b := b) (by omega) (by omega) (by omega)
        simp (disch := omega) only [gi_nI, tn_nI, hs_1, hs_2, hs_3, hs_4, hs_5, hs_6, hs_7, hs_s, hs_m, hs_h, hs_t, lit_nI, nI_add, nI_mul, nI_eq, nI_leI, nI_ltI, nm_j, bd_j, Nat.one_ne_zero, Nat.zero_ne_one, Nat.reduceEqDiff, Nat.reduceLeDiff, Nat.reduceLT, Nat.reduceAdd, Nat.reduceSub, Nat.reduceMul, e10, e01, en1, en2, en3, en4, en6, rq1, rq2, rq3, rq4, rq6, rm1, rm2, rm3, rm4, rm6, fz0, fz1, X5_bound_e, X5_isIn_e, Nat.lt_irrefl, Nat.le_refl, Nat.not_lt_zero, Nat.zero_le, n9a, n9b, n9c, n9d, n9e, n9f, n9g, h5, ↓reduceIte]
        rw [if_neg e, gd_t e2, er]
  · obtain ⟨a, b⟩ := t
    obtain ⟨i, rfl, h1, h2, h3, h4⟩ := hs1
    dsimp only at h1 h2 h3 h4 ⊢
    have hb0 : b = 0 := h4
    have e : lg_cmp (lN b) 0 = nI 0 := (lg_cmp_eq _ _).mpr (by rw [hb0]; rfl)
    rw [hb0, Nat.gcd_zero_right]
    rw [hb0] at e
    by_cases h5 : 200 ≤ i
    · simp (disch := omega) only [gi_nI, tn_nI, hs_1, hs_2, hs_3, hs_4, hs_5, hs_6, hs_7, hs_s, hs_m, hs_h, hs_t, lit_nI, nI_add, nI_mul, nI_eq, nI_leI, nI_ltI, nm_j, bd_j, Nat.one_ne_zero, Nat.zero_ne_one, Nat.reduceEqDiff, Nat.reduceLeDiff, Nat.reduceLT, Nat.reduceAdd, Nat.reduceSub, Nat.reduceMul, e10, e01, en1, en2, en3, en4, en6, rq1, rq2, rq3, rq4, rq6, rm1, rm2, rm3, rm4, rm6, fz0, fz1, X5_bound_e, X5_isIn_e, Nat.lt_irrefl, Nat.le_refl, Nat.not_lt_zero, Nat.zero_le, n9a, n9b, n9c, n9d, n9e, n9f, n9g, h5, ↓reduceIte]
    · simp (disch := omega) only [gi_nI, tn_nI, hs_1, hs_2, hs_3, hs_4, hs_5, hs_6, hs_7, hs_s, hs_m, hs_h, hs_t, lit_nI, nI_add, nI_mul, nI_eq, nI_leI, nI_ltI, nm_j, bd_j, Nat.one_ne_zero, Nat.zero_ne_one, Nat.reduceEqDiff, Nat.reduceLeDiff, Nat.reduceLT, Nat.reduceAdd, Nat.reduceSub, Nat.reduceMul, e10, e01, en1, en2, en3, en4, en6, rq1, rq2, rq3, rq4, rq6, rm1, rm2, rm3, rm4, rm6, fz0, fz1, X5_bound_e, X5_isIn_e, Nat.lt_irrefl, Nat.le_refl, Nat.not_lt_zero, Nat.zero_le, n9a, n9b, n9c, n9d, n9e, n9f, n9g, h5, ↓reduceIte]
      rw [if_pos e]
theorem X5_dv {a b : Nat} (ha : a < 2 ^ 62) (hb : b < 2 ^ 62) : f_X5_divisor (lN a) (lN b) = some (lN (Nat.gcd a b)) := by
  unfold f_X5_divisor
  refine lp_k (fun d t s => s = (lN t.1, lN t.2) ∧ t.1 < 2 ^ 62 ∧ t.2 < 2 ^ 62 ∧ en d t.1 t.2) (fun d t => some (lN (Nat.gcd t.1 t.2))) (fun d t s hs1 => ?_) (fun t s hs1 nx => ?_) (2 * 62) (a, b) _ 1000 ⟨rfl, ha, hb, en_of 62 a b hb⟩ (by decide)
  · obtain ⟨a, b⟩ := t
    obtain ⟨rfl, h2, h3, h4⟩ := hs1
    dsimp only at h2 h3 h4 ⊢
    by_cases hb0 : b = 0
    · left
      intro nx
      have e : lg_cmp (lN b) 0 = nI 0 := (lg_cmp_eq _ _).mpr (by rw [hb0]; rfl)
      rw [hb0, Nat.gcd_zero_right]
      rw [hb0] at e
      simp (disch := omega) only [gi_nI, tn_nI, hs_1, hs_2, hs_3, hs_4, hs_5, hs_6, hs_7, hs_s, hs_m, hs_h, hs_t, lit_nI, nI_add, nI_mul, nI_eq, nI_leI, nI_ltI, nm_j, bd_j, Nat.one_ne_zero, Nat.zero_ne_one, Nat.reduceEqDiff, Nat.reduceLeDiff, Nat.reduceLT, Nat.reduceAdd, Nat.reduceSub, Nat.reduceMul, e10, e01, en1, en2, en3, en4, en6, rq1, rq2, rq3, rq4, rq6, rm1, rm2, rm3, rm4, rm6, fz0, fz1, X5_bound_e, X5_isIn_e, Nat.lt_irrefl, Nat.le_refl, Nat.not_lt_zero, Nat.zero_le, n9a, n9b, n9c, n9d, n9e, n9f, n9g, ↓reduceIte]
      rw [if_pos e]
    · right
      have e : ¬ lg_cmp (lN b) 0 = nI 0 := fun z => by
        have := (lg_cmp_eq _ _).mp z
        rw [l00, pk_lEQ (by omega) (by omega)] at this
        exact hb0 this
      have e2 : ¬ lN b = 0 := fun z => by
        rw [l00, pk_lEQ (by omega) (by omega)] at z
        exact hb0 z
      have hm : a % b < b := Nat.mod_lt _ (by omega)
      refine ⟨(b, a % b), _, ⟨rfl, h3, by dsimp only; omega, ?_⟩, ?_, fun nx => ?_⟩
      · rcases h4 with h | h
        · exact absurd h hb0
        · exact h
      · dsimp only
        rw [gcd_st]
      · have er := pk_lRem (a := a) (b := b) (by omega) (by omega) (by omega)
        simp (disch := omega) only [gi_nI, tn_nI, hs_1, hs_2, hs_3, hs_4, hs_5, hs_6, hs_7, hs_s, hs_m, hs_h, hs_t, lit_nI, nI_add, nI_mul, nI_eq, nI_leI, nI_ltI, nm_j, bd_j, Nat.one_ne_zero, Nat.zero_ne_one, Nat.reduceEqDiff, Nat.reduceLeDiff, Nat.reduceLT, Nat.reduceAdd, Nat.reduceSub, Nat.reduceMul, e10, e01, en1, en2, en3, en4, en6, rq1, rq2, rq3, rq4, rq6, rm1, rm2, rm3, rm4, rm6, fz0, fz1, X5_bound_e, X5_isIn_e, Nat.lt_irrefl, Nat.le_refl, Nat.not_lt_zero, Nat.zero_le, n9a, n9b, n9c, n9d, n9e, n9f, n9g, ↓reduceIte]
        rw [if_neg e, gd_t e2, er]
  · obtain ⟨a, b⟩ := t
    obtain ⟨rfl, h2, h3, h4⟩ := hs1
    dsimp only at h2 h3 h4 ⊢
    have hb0 : b = 0 := h4
    have e : lg_cmp (lN b) 0 = nI 0 := (lg_cmp_eq _ _).mpr (by rw [hb0]; rfl)
    rw [hb0, Nat.gcd_zero_right]
    rw [hb0] at e
    simp (disch := omega) only [gi_nI, tn_nI, hs_1, hs_2, hs_3, hs_4, hs_5, hs_6, hs_7, hs_s, hs_m, hs_h, hs_t, lit_nI, nI_add, nI_mul, nI_eq, nI_leI, nI_ltI, nm_j, bd_j, Nat.one_ne_zero, Nat.zero_ne_one, Nat.reduceEqDiff, Nat.reduceLeDiff, Nat.reduceLT, Nat.reduceAdd, Nat.reduceSub, Nat.reduceMul, e10, e01, en1, en2, en3, en4, en6, rq1, rq2, rq3, rq4, rq6, rm1, rm2, rm3, rm4, rm6, fz0, fz1, X5_bound_e, X5_isIn_e, Nat.lt_irrefl, Nat.le_refl, Nat.not_lt_zero, Nat.zero_le, n9a, n9b, n9c, n9d, n9e, n9f, n9g, ↓reduceIte]
    rw [if_pos e]
def frN (u b p : Nat) : Nat := if p = 0 then u / Nat.gcd u b else b / Nat.gcd u b
theorem X4_fr {u b p : Nat} (hu : u < 2 ^ 62) (hb : b < 2 ^ 62) (hb0 : 0 < b) (hp : p ≤ 1) : f_X4_fraction (lN u) (lN b) (nI p) = some (lN (frN u b p)) := by
  have e1 := X4_cd hb hu
  rw [Nat.gcd_comm] at e1
  have hg : 0 < Nat.gcd u b := Nat.gcd_pos_of_pos_right _ hb0
  have hgl : Nat.gcd u b ≤ b := Nat.gcd_le_right _ hb0
  have e : ¬ lg_cmp (lN (Nat.gcd u b)) 0 = 0 := fun z => by
    have := (lg_cmp_eq _ _).mp z
    rw [l00, pk_lEQ (by omega) (by omega)] at this
    omega
  have e2 : ¬ lN (Nat.gcd u b) = 0 := fun z => by
    rw [l00, pk_lEQ (by omega) (by omega)] at z
    omega
  unfold f_X4_fraction frN
  simp only [e1, bd_j]
  rw [if_neg e]
  rcases (show p = 0 ∨ p = 1 by omega) with rfl | rfl
  · simp (disch := omega) only [gi_nI, tn_nI, hs_1, hs_2, hs_3, hs_4, hs_5, hs_6, hs_7, hs_s, hs_m, hs_h, hs_t, lit_nI, nI_add, nI_mul, nI_eq, nI_leI, nI_ltI, nm_j, bd_j, Nat.one_ne_zero, Nat.zero_ne_one, Nat.reduceEqDiff, Nat.reduceLeDiff, Nat.reduceLT, Nat.reduceAdd, Nat.reduceSub, Nat.reduceMul, e10, e01, en1, en2, en3, en4, en6, rq1, rq2, rq3, rq4, rq6, rm1, rm2, rm3, rm4, rm6, fz0, fz1, X5_bound_e, X5_isIn_e, Nat.lt_irrefl, Nat.le_refl, Nat.not_lt_zero, Nat.zero_le, n9a, n9b, n9c, n9d, n9e, n9f, n9g, ↓reduceIte]
    rw [gd_t e2, pk_lDiv (by omega) hg (by omega)]
  · simp (disch := omega) only [gi_nI, tn_nI, hs_1, hs_2, hs_3, hs_4, hs_5, hs_6, hs_7, hs_s, hs_m, hs_h, hs_t, lit_nI, nI_add, nI_mul, nI_eq, nI_leI, nI_ltI, nm_j, bd_j, Nat.one_ne_zero, Nat.zero_ne_one, Nat.reduceEqDiff, Nat.reduceLeDiff, Nat.reduceLT, Nat.reduceAdd, Nat.reduceSub, Nat.reduceMul, e10, e01, en1, en2, en3, en4, en6, rq1, rq2, rq3, rq4, rq6, rm1, rm2, rm3, rm4, rm6, fz0, fz1, X5_bound_e, X5_isIn_e, Nat.lt_irrefl, Nat.le_refl, Nat.not_lt_zero, Nat.zero_le, n9a, n9b, n9c, n9d, n9e, n9f, n9g, ↓reduceIte]
    rw [gd_t e2, pk_lDiv (by omega) hg (by omega)]
theorem X5_po {u b p : Nat} (hu : u < 2 ^ 62) (hb : b < 2 ^ 62) (hb0 : 0 < b) (hp : p ≤ 1) : f_X5_partOf (lN u) (lN b) (nI p) = some (lN (frN u b p)) := by
  have e1 := X5_dv hu hb
  have hg : 0 < Nat.gcd u b := Nat.gcd_pos_of_pos_right _ hb0
  have hgl : Nat.gcd u b ≤ b := Nat.gcd_le_right _ hb0
  have e2 : ¬ lN (Nat.gcd u b) = 0 := fun z => by
    rw [l00, pk_lEQ (by omega) (by omega)] at z
    omega
  unfold f_X5_partOf frN
  rcases (show p = 0 ∨ p = 1 by omega) with rfl | rfl
  · simp (disch := omega) only [gi_nI, tn_nI, hs_1, hs_2, hs_3, hs_4, hs_5, hs_6, hs_7, hs_s, hs_m, hs_h, hs_t, lit_nI, nI_add, nI_mul, nI_eq, nI_leI, nI_ltI, nm_j, bd_j, Nat.one_ne_zero, Nat.zero_ne_one, Nat.reduceEqDiff, Nat.reduceLeDiff, Nat.reduceLT, Nat.reduceAdd, Nat.reduceSub, Nat.reduceMul, e10, e01, en1, en2, en3, en4, en6, rq1, rq2, rq3, rq4, rq6, rm1, rm2, rm3, rm4, rm6, fz0, fz1, X5_bound_e, X5_isIn_e, Nat.lt_irrefl, Nat.le_refl, Nat.not_lt_zero, Nat.zero_le, n9a, n9b, n9c, n9d, n9e, n9f, n9g, e1, ↓reduceIte]
    rw [gd_t e2, pk_lDiv (by omega) hg (by omega)]
  · simp (disch := omega) only [gi_nI, tn_nI, hs_1, hs_2, hs_3, hs_4, hs_5, hs_6, hs_7, hs_s, hs_m, hs_h, hs_t, lit_nI, nI_add, nI_mul, nI_eq, nI_leI, nI_ltI, nm_j, bd_j, Nat.one_ne_zero, Nat.zero_ne_one, Nat.reduceEqDiff, Nat.reduceLeDiff, Nat.reduceLT, Nat.reduceAdd, Nat.reduceSub, Nat.reduceMul, e10, e01, en1, en2, en3, en4, en6, rq1, rq2, rq3, rq4, rq6, rm1, rm2, rm3, rm4, rm6, fz0, fz1, X5_bound_e, X5_isIn_e, Nat.lt_irrefl, Nat.le_refl, Nat.not_lt_zero, Nat.zero_le, n9a, n9b, n9c, n9d, n9e, n9f, n9g, e1, ↓reduceIte]
    rw [gd_t e2, pk_lDiv (by omega) hg (by omega)]
def lgL (v : Int32) : Int64 := 4000000000000000000 - v.toInt64
theorem rw1 {M : St} : f_X5_lowestOf M (-nI 1) = some (lgL (-nI 1), rf M 1) := by
  unfold f_X5_lowestOf
  rw [ng_1]
  simp (disch := omega) only [gi_nI, tn_nI, hs_1, hs_2, hs_3, hs_4, hs_5, hs_6, hs_7, hs_s, hs_m, hs_h, hs_t, lit_nI, nI_add, nI_mul, nI_eq, nI_leI, nI_ltI, nm_i, bd_s, ↓reduceIte]
  rfl
theorem rw2 {M : St} : f_X5_lowestOf M (-nI 2) = some (lgL (-nI 2), rf M 2) := by
  unfold f_X5_lowestOf
  rw [ng_2]
  simp (disch := omega) only [gi_nI, tn_nI, hs_1, hs_2, hs_3, hs_4, hs_5, hs_6, hs_7, hs_s, hs_m, hs_h, hs_t, lit_nI, nI_add, nI_mul, nI_eq, nI_leI, nI_ltI, nm_i, bd_s, ↓reduceIte]
  rfl
theorem rw4 {M : St} : f_X5_lowestOf M (-nI 4) = some (lgL (-nI 4), rf M 4) := by
  unfold f_X5_lowestOf
  rw [ng_4]
  simp (disch := omega) only [gi_nI, tn_nI, hs_1, hs_2, hs_3, hs_4, hs_5, hs_6, hs_7, hs_s, hs_m, hs_h, hs_t, lit_nI, nI_add, nI_mul, nI_eq, nI_leI, nI_ltI, nm_i, bd_s, ↓reduceIte]
  rfl
theorem rw6 {M : St} : f_X5_lowestOf M (-nI 6) = some (lgL (-nI 6), rf M 6) := by
  unfold f_X5_lowestOf
  rw [ng_6]
  simp (disch := omega) only [gi_nI, tn_nI, hs_1, hs_2, hs_3, hs_4, hs_5, hs_6, hs_7, hs_s, hs_m, hs_h, hs_t, lit_nI, nI_add, nI_mul, nI_eq, nI_leI, nI_ltI, nm_i, bd_s, ↓reduceIte]
  rfl
theorem lg_e {v : Int32} : (4000000000000000000 : Int64) - v.toInt64 = lgL v := rfl
theorem alN_le {c : G2} (h : ∀ k, c 6 k ≤ 9) : ∀ j, alN c j ≤ 9 * j
  | 0 => Nat.le_refl 0
  | j + 1 => by
    have := alN_le h j
    have := h j
    simp only [alN]
    omega
theorem r_mean {n t k g w z q M : St} (hR : R n t k g w z q M) (p1 : Int32) : ∃ r q' M', f_X4_mean n t k g w z q p1 = some (r, q') ∧ f_X5_mean M p1 = some (r, M') ∧ R n t k g w z q' M' := by
  have hQ := hR
  obtain ⟨c, ct, kc, Gn, Gt, Gk, GM, rfl, rfl, rfl, rfl, hG, hZ, hK, hS⟩ := hR
  have hI := hG.1
  have hN := hI.2.2.1
  have bA : alS c ≤ 9 * c 16 1 := alN_le hG.2.2.2.2 _
  have e1 := X0_allSins (G := Gn) hI
  have e2 := X5_allSins (G := GM) hI
  have l1 : (nI (alS c)).toInt64 = lN (alS c) := nI_l (by omega)
  have main : ∀ p, p ≤ 1 → ∃ r q' M', f_X4_mean (hs c Gn) (hs ct Gt) (hs kc Gk) g w z q (nI p) = some (r, q') ∧ f_X5_mean (hs c GM) (nI p) = some (r, M') ∧ R (hs c Gn) (hs ct Gt) (hs kc Gk) g w z q' M' := by
    intro p hp
    have lp0 : (nI p).toInt64 = lN p := nI_l (by omega)
    have hp1 : ¬ 1 < p := by omega
    by_cases h0 : c 16 1 = 0
    · have e3 := X4_fr (u := alS c) (b := 1) (p := p) (by omega) (by omega) (by omega) hp
      have hA : alS c = 0 := by omega
      have e4 : frN (alS c) 1 p = p := by
        rw [hA]
        unfold frN
        rcases (show p = 0 ∨ p = 1 by omega) with rfl | rfl <;> decide
      rw [e4] at e3
      have l2 : (nI 1).toInt64 = lN 1 := nI_l (by omega)
      refine ⟨lN p, q, _, ?_, ?_, hQ⟩
      · unfold f_X4_mean
        rcases (show p = 0 ∨ p = 1 by omega) with rfl | rfl
        · simp (disch := omega) only [gi_nI, tn_nI, hs_1, hs_2, hs_3, hs_4, hs_5, hs_6, hs_7, hs_s, hs_m, hs_h, hs_t, lit_nI, nI_add, nI_mul, nI_eq, nI_leI, nI_ltI, nm_j, bd_j, Nat.one_ne_zero, Nat.zero_ne_one, Nat.reduceEqDiff, Nat.reduceLeDiff, Nat.reduceLT, Nat.reduceAdd, Nat.reduceSub, Nat.reduceMul, e10, e01, en1, en2, en3, en4, en6, rq1, rq2, rq3, rq4, rq6, rm1, rm2, rm3, rm4, rm6, fz0, fz1, X5_bound_e, X5_isIn_e, Nat.lt_irrefl, Nat.le_refl, Nat.not_lt_zero, Nat.zero_le, n9a, n9b, n9c, n9d, n9e, n9f, n9g, e1, l1, h0, l2, e3, ↓reduceIte]
        · simp (disch := omega) only [gi_nI, tn_nI, hs_1, hs_2, hs_3, hs_4, hs_5, hs_6, hs_7, hs_s, hs_m, hs_h, hs_t, lit_nI, nI_add, nI_mul, nI_eq, nI_leI, nI_ltI, nm_j, bd_j, Nat.one_ne_zero, Nat.zero_ne_one, Nat.reduceEqDiff, Nat.reduceLeDiff, Nat.reduceLT, Nat.reduceAdd, Nat.reduceSub, Nat.reduceMul, e10, e01, en1, en2, en3, en4, en6, rq1, rq2, rq3, rq4, rq6, rm1, rm2, rm3, rm4, rm6, fz0, fz1, X5_bound_e, X5_isIn_e, Nat.lt_irrefl, Nat.le_refl, Nat.not_lt_zero, Nat.zero_le, n9a, n9b, n9c, n9d, n9e, n9f, n9g, e1, l1, h0, l2, e3, ↓reduceIte]
      · unfold f_X5_mean
        simp (disch := omega) only [gi_nI, tn_nI, hs_1, hs_2, hs_3, hs_4, hs_5, hs_6, hs_7, hs_s, hs_m, hs_h, hs_t, lit_nI, nI_add, nI_mul, nI_eq, nI_leI, nI_ltI, nm_j, bd_j, Nat.one_ne_zero, Nat.zero_ne_one, Nat.reduceEqDiff, Nat.reduceLeDiff, Nat.reduceLT, Nat.reduceAdd, Nat.reduceSub, Nat.reduceMul, e10, e01, en1, en2, en3, en4, en6, rq1, rq2, rq3, rq4, rq6, rm1, rm2, rm3, rm4, rm6, fz0, fz1, X5_bound_e, X5_isIn_e, Nat.lt_irrefl, Nat.le_refl, Nat.not_lt_zero, Nat.zero_le, n9a, n9b, n9c, n9d, n9e, n9f, n9g, hp1, h0, lp0, ↓reduceIte]
    · have e3 := X4_fr (u := alS c) (b := c 16 1) (p := p) (by omega) (by omega) (by omega) hp
      have e5 := X5_po (u := alS c) (b := c 16 1) (p := p) (by omega) (by omega) (by omega) hp
      have l2 : (nI (c 16 1)).toInt64 = lN (c 16 1) := nI_l (by omega)
      have l3 : (if 1 < c 16 1 then nI (c 16 1) else nI 1) = nI (c 16 1) := by
        by_cases h1 : 1 < c 16 1
        · rw [if_pos h1]
        · have : c 16 1 = 1 := by omega
          rw [if_neg h1, this]
      refine ⟨lN (frN (alS c) (c 16 1) p), q, _, ?_, ?_, hQ⟩
      · unfold f_X4_mean
        rcases (show p = 0 ∨ p = 1 by omega) with rfl | rfl
        · simp (disch := omega) only [gi_nI, tn_nI, hs_1, hs_2, hs_3, hs_4, hs_5, hs_6, hs_7, hs_s, hs_m, hs_h, hs_t, lit_nI, nI_add, nI_mul, nI_eq, nI_leI, nI_ltI, nm_j, bd_j, Nat.one_ne_zero, Nat.zero_ne_one, Nat.reduceEqDiff, Nat.reduceLeDiff, Nat.reduceLT, Nat.reduceAdd, Nat.reduceSub, Nat.reduceMul, e10, e01, en1, en2, en3, en4, en6, rq1, rq2, rq3, rq4, rq6, rm1, rm2, rm3, rm4, rm6, fz0, fz1, X5_bound_e, X5_isIn_e, Nat.lt_irrefl, Nat.le_refl, Nat.not_lt_zero, Nat.zero_le, n9a, n9b, n9c, n9d, n9e, n9f, n9g, e1, l1, l3, l2, e3, ↓reduceIte]
        · simp (disch := omega) only [gi_nI, tn_nI, hs_1, hs_2, hs_3, hs_4, hs_5, hs_6, hs_7, hs_s, hs_m, hs_h, hs_t, lit_nI, nI_add, nI_mul, nI_eq, nI_leI, nI_ltI, nm_j, bd_j, Nat.one_ne_zero, Nat.zero_ne_one, Nat.reduceEqDiff, Nat.reduceLeDiff, Nat.reduceLT, Nat.reduceAdd, Nat.reduceSub, Nat.reduceMul, e10, e01, en1, en2, en3, en4, en6, rq1, rq2, rq3, rq4, rq6, rm1, rm2, rm3, rm4, rm6, fz0, fz1, X5_bound_e, X5_isIn_e, Nat.lt_irrefl, Nat.le_refl, Nat.not_lt_zero, Nat.zero_le, n9a, n9b, n9c, n9d, n9e, n9f, n9g, e1, l1, l3, l2, e3, ↓reduceIte]
      · unfold f_X5_mean
        simp (disch := omega) only [gi_nI, tn_nI, hs_1, hs_2, hs_3, hs_4, hs_5, hs_6, hs_7, hs_s, hs_m, hs_h, hs_t, lit_nI, nI_add, nI_mul, nI_eq, nI_leI, nI_ltI, nm_j, bd_j, Nat.one_ne_zero, Nat.zero_ne_one, Nat.reduceEqDiff, Nat.reduceLeDiff, Nat.reduceLT, Nat.reduceAdd, Nat.reduceSub, Nat.reduceMul, e10, e01, en1, en2, en3, en4, en6, rq1, rq2, rq3, rq4, rq6, rm1, rm2, rm3, rm4, rm6, fz0, fz1, X5_bound_e, X5_isIn_e, Nat.lt_irrefl, Nat.le_refl, Nat.not_lt_zero, Nat.zero_le, n9a, n9b, n9c, n9d, n9e, n9f, n9g, hp1, h0, e2, l1, l2, e5, ↓reduceIte]
  rcases wh01 p1 with rfl | rfl | ⟨w1, w2, w3⟩
  · exact main 0 (by omega)
  · exact main 1 (by omega)
  · refine ⟨lgL (-nI 2), rf q 2, rf (hs c GM) 2, ?_, ?_, hQ.ref 2⟩
    · unfold f_X4_mean
      simp (disch := omega) only [gi_nI, tn_nI, hs_1, hs_2, hs_3, hs_4, hs_5, hs_6, hs_7, hs_s, hs_m, hs_h, hs_t, lit_nI, nI_add, nI_mul, nI_eq, nI_leI, nI_ltI, nm_j, bd_j, Nat.one_ne_zero, Nat.zero_ne_one, Nat.reduceEqDiff, Nat.reduceLeDiff, Nat.reduceLT, Nat.reduceAdd, Nat.reduceSub, Nat.reduceMul, e10, e01, en1, en2, en3, en4, en6, rq1, rq2, rq3, rq4, rq6, rm1, rm2, rm3, rm4, rm6, fz0, fz1, X5_bound_e, X5_isIn_e, Nat.lt_irrefl, Nat.le_refl, Nat.not_lt_zero, Nat.zero_le, n9a, n9b, n9c, n9d, n9e, n9f, n9g, w1, w2, lg_e, ↓reduceIte]
    · unfold f_X5_mean
      simp (disch := omega) only [gi_nI, tn_nI, hs_1, hs_2, hs_3, hs_4, hs_5, hs_6, hs_7, hs_s, hs_m, hs_h, hs_t, lit_nI, nI_add, nI_mul, nI_eq, nI_leI, nI_ltI, nm_j, bd_j, Nat.one_ne_zero, Nat.zero_ne_one, Nat.reduceEqDiff, Nat.reduceLeDiff, Nat.reduceLT, Nat.reduceAdd, Nat.reduceSub, Nat.reduceMul, e10, e01, en1, en2, en3, en4, en6, rq1, rq2, rq3, rq4, rq6, rm1, rm2, rm3, rm4, rm6, fz0, fz1, X5_bound_e, X5_isIn_e, Nat.lt_irrefl, Nat.le_refl, Nat.not_lt_zero, Nat.zero_le, n9a, n9b, n9c, n9d, n9e, n9f, n9g, w3, rw2, ↓reduceIte]
