/-! BERTH, DEAL -/
theorem gu_gu {c : G2} {a k v u : Nat} : gu (gu c a k v) a k u = gu c a k u := by
  funext i j
  unfold gu
  split <;> rfl
theorem rcN_le {c : G2} : ∀ j, rcN c j ≤ j
  | 0 => Nat.le_refl 0
  | j + 1 => by
    have := rcN_le (c := c) j
    simp only [rcN]
    split <;> omega
theorem rcA_le {c : G2} (hI : Iv c) : rcA c ≤ 5 := by
  have := rcN_le (c := c) (c 16 0)
  have := hI.2.1
  unfold rcA
  omega
def be (c : G2) (m : Nat) : Nat → Int32 × Int32
  | 0 => (-nI 9, nI (rcA c))
  | j + 1 => if c 3 j = 0 ∧ ¬ nI (rcA (gu c 7 m j)) ≤ (be c m j).2 then (nI j, nI (rcA (gu c 7 m j))) else be c m j
theorem be_t {c : G2} {m j : Nat} (h : c 3 j = 0 ∧ ¬ nI (rcA (gu c 7 m j)) ≤ (be c m j).2) : be c m (j + 1) = (nI j, nI (rcA (gu c 7 m j))) := by simp only [be]; rw [if_pos h]
theorem be_f {c : G2} {m j : Nat} (h : ¬ (c 3 j = 0 ∧ ¬ nI (rcA (gu c 7 m j)) ≤ (be c m j).2)) : be c m (j + 1) = be c m j := by simp only [be]; rw [if_neg h]
theorem r_berth {n t k g w z q M : St} (hR : R n t k g w z q M) (p1 : Int32) : ∃ r t' q' M', f_X4_berth n t k g w z q p1 = some (r, t', q') ∧ f_X5_berth M p1 = some (r, M') ∧ R n t' k g w z q' M' := by
  have hQ := hR
  obtain ⟨c, ct, kc, Gn, Gt, Gk, GM, rfl, rfl, rfl, rfl, hG, hZ, hK, hS⟩ := hR
  have hI := hG.1
  have hN := hI.2.2.1
  have hN5 := hI.2.1
  rcases man_or hI p1 with ⟨m, hm, rfl⟩ | hn
  · have e1 := X0_hasMan (G := Gn) hI (show m < 2147483648 by omega)
    have e2 := X5_isMan (G := GM) hI (show m < 2147483648 by omega)
    rw [if_pos hm] at e1 e2
    have h7 := hI.2.2.2.2 m hm
    have c0 : ∃ r, f_X4_berth (hs c Gn) (hs ct Gt) (hs kc Gk) g w z q (nI m) = some r ∧ ∃ x, r = ((be c m (c 16 0)).1, hs (gu c 7 m x) Gt, q) ∧ x < c 16 0 := by
      have e3 := X0_countRisable (G := Gn) hI
      have e4 := X0_copyFrom (G := Gn) (Gt := Gt) hG.2.1 hZ
      unfold f_X4_berth
      simp (disch := omega) only [gi_nI, tn_nI, hs_1, hs_2, hs_3, hs_4, hs_5, hs_6, hs_7, hs_s, hs_m, hs_h, hs_t, lit_nI, nI_add, nI_mul, nI_eq, nI_leI, nI_ltI, nm_i, bd_s, Nat.one_ne_zero, Nat.zero_ne_one, Nat.reduceEqDiff, Nat.reduceLeDiff, Nat.reduceLT, Nat.reduceAdd, Nat.reduceSub, Nat.reduceMul, e10, e01, en1, en2, en3, en4, en6, rq1, rq2, rq3, rq4, rq6, rm1, rm2, rm3, rm4, rm6, fz0, fz1, X5_bound_e, X5_isIn_e, Nat.lt_irrefl, Nat.le_refl, Nat.not_lt_zero, Nat.zero_le, n9a, n9b, n9c, n9d, n9e, n9f, n9g, e1, e3, e4, ↓reduceIte]
      refine lp_r (fun j s => ∃ x, s = ((be c m j).1, (be c m j).2, nI j, hs (gu c 7 m x) Gt) ∧ x < c 16 0) _ (c 16 0) ⟨c 7 m, by rw [gu_same]; rfl, h7⟩ (fun j hj s hs1 => Or.inl ?_) (fun s hs1 => ?_) (by omega)
      · obtain ⟨x, rfl, hx⟩ := hs1
        have h1 : ¬ c 16 0 ≤ j := by omega
        have e5 := X0_isIn (G := Gn) hI (show j < 5 by omega)
        have e6 := X0_countRisable (G := Gt) (Iv_gu7 (k := m) hI hj)
        by_cases h3 : c 3 j = 0
        · rw [if_pos h3] at e5
          by_cases h4 : nI (rcA (gu c 7 m j)) ≤ (be c m j).2
          · rw [be_f (fun z => z.2 h4)]
            refine ⟨_, ⟨j, rfl, hj⟩, fun nx => ?_⟩
            simp (disch := omega) only [gi_nI, tn_nI, hs_1, hs_2, hs_3, hs_4, hs_5, hs_6, hs_7, hs_s, hs_m, hs_h, hs_t, lit_nI, nI_add, nI_mul, nI_eq, nI_leI, nI_ltI, nm_i, bd_s, Nat.one_ne_zero, Nat.zero_ne_one, Nat.reduceEqDiff, Nat.reduceLeDiff, Nat.reduceLT, Nat.reduceAdd, Nat.reduceSub, Nat.reduceMul, e10, e01, en1, en2, en3, en4, en6, rq1, rq2, rq3, rq4, rq6, rm1, rm2, rm3, rm4, rm6, fz0, fz1, X5_bound_e, X5_isIn_e, Nat.lt_irrefl, Nat.le_refl, Nat.not_lt_zero, Nat.zero_le, n9a, n9b, n9c, n9d, n9e, n9f, n9g, h1, su_hs, gu_gu, e6, e5, h4, ↓reduceIte]
          · rw [be_t ⟨h3, h4⟩]
            refine ⟨_, ⟨j, rfl, hj⟩, fun nx => ?_⟩
            simp (disch := omega) only [gi_nI, tn_nI, hs_1, hs_2, hs_3, hs_4, hs_5, hs_6, hs_7, hs_s, hs_m, hs_h, hs_t, lit_nI, nI_add, nI_mul, nI_eq, nI_leI, nI_ltI, nm_i, bd_s, Nat.one_ne_zero, Nat.zero_ne_one, Nat.reduceEqDiff, Nat.reduceLeDiff, Nat.reduceLT, Nat.reduceAdd, Nat.reduceSub, Nat.reduceMul, e10, e01, en1, en2, en3, en4, en6, rq1, rq2, rq3, rq4, rq6, rm1, rm2, rm3, rm4, rm6, fz0, fz1, X5_bound_e, X5_isIn_e, Nat.lt_irrefl, Nat.le_refl, Nat.not_lt_zero, Nat.zero_le, n9a, n9b, n9c, n9d, n9e, n9f, n9g, h1, su_hs, gu_gu, e6, e5, h4, ↓reduceIte]
        · rw [if_neg h3] at e5
          rw [be_f (fun z => h3 z.1)]
          refine ⟨_, ⟨j, rfl, hj⟩, fun nx => ?_⟩
          simp (disch := omega) only [gi_nI, tn_nI, hs_1, hs_2, hs_3, hs_4, hs_5, hs_6, hs_7, hs_s, hs_m, hs_h, hs_t, lit_nI, nI_add, nI_mul, nI_eq, nI_leI, nI_ltI, nm_i, bd_s, Nat.one_ne_zero, Nat.zero_ne_one, Nat.reduceEqDiff, Nat.reduceLeDiff, Nat.reduceLT, Nat.reduceAdd, Nat.reduceSub, Nat.reduceMul, e10, e01, en1, en2, en3, en4, en6, rq1, rq2, rq3, rq4, rq6, rm1, rm2, rm3, rm4, rm6, fz0, fz1, X5_bound_e, X5_isIn_e, Nat.lt_irrefl, Nat.le_refl, Nat.not_lt_zero, Nat.zero_le, n9a, n9b, n9c, n9d, n9e, n9f, n9g, h1, su_hs, gu_gu, e6, e5, ↓reduceIte]
      · obtain ⟨x, rfl, hx⟩ := hs1
        refine ⟨_, ⟨x, rfl, hx⟩, fun nx => ?_⟩
        simp (disch := omega) only [gi_nI, tn_nI, hs_1, hs_2, hs_3, hs_4, hs_5, hs_6, hs_7, hs_s, hs_m, hs_h, hs_t, lit_nI, nI_add, nI_mul, nI_eq, nI_leI, nI_ltI, nm_i, bd_s, Nat.one_ne_zero, Nat.zero_ne_one, Nat.reduceEqDiff, Nat.reduceLeDiff, Nat.reduceLT, Nat.reduceAdd, Nat.reduceSub, Nat.reduceMul, e10, e01, en1, en2, en3, en4, en6, rq1, rq2, rq3, rq4, rq6, rm1, rm2, rm3, rm4, rm6, fz0, fz1, X5_bound_e, X5_isIn_e, Nat.lt_irrefl, Nat.le_refl, Nat.not_lt_zero, Nat.zero_le, n9a, n9b, n9c, n9d, n9e, n9f, n9g, ↓reduceIte]
    have c5 : ∃ r, f_X5_berth (hs c GM) (nI m) = some r ∧ r = ((be c m (c 16 0)).1, hs c GM) := by
      have e3 := X5_canRiseOnes (G := GM) hI
      unfold f_X5_berth
      simp (disch := omega) only [gi_nI, tn_nI, hs_1, hs_2, hs_3, hs_4, hs_5, hs_6, hs_7, hs_s, hs_m, hs_h, hs_t, lit_nI, nI_add, nI_mul, nI_eq, nI_leI, nI_ltI, nm_i, bd_s, Nat.one_ne_zero, Nat.zero_ne_one, Nat.reduceEqDiff, Nat.reduceLeDiff, Nat.reduceLT, Nat.reduceAdd, Nat.reduceSub, Nat.reduceMul, e10, e01, en1, en2, en3, en4, en6, rq1, rq2, rq3, rq4, rq6, rm1, rm2, rm3, rm4, rm6, fz0, fz1, X5_bound_e, X5_isIn_e, Nat.lt_irrefl, Nat.le_refl, Nat.not_lt_zero, Nat.zero_le, n9a, n9b, n9c, n9d, n9e, n9f, n9g, e2, e3, ↓reduceIte]
      refine lp_r (fun j s => ∃ x, s = ((be c m j).1, (be c m j).2, nI j, hs (gu c 7 m x) GM) ∧ x < c 16 0) _ (c 16 0) ⟨c 7 m, by rw [gu_same]; rfl, h7⟩ (fun j hj s hs1 => Or.inl ?_) (fun s hs1 => ?_) (by omega)
      · obtain ⟨x, rfl, hx⟩ := hs1
        have h1 : ¬ c 16 0 ≤ j := by omega
        have o0 : gu c 7 m x 16 0 = c 16 0 := gu_a (by decide)
        have o3 : gu c 7 m x 3 j = c 3 j := gu_a (by decide)
        have b3 := hI.1 3 j
        have e6 := X5_canRiseOnes (G := GM) (Iv_gu7 (k := m) hI hj)
        by_cases h3 : c 3 j = 0
        · by_cases h4 : nI (rcA (gu c 7 m j)) ≤ (be c m j).2
          · rw [be_f (fun z => z.2 h4)]
            have h5 : ¬ (be c m j).2 < nI (rcA (gu c 7 m j)) := Int32.not_lt.mpr h4
            refine ⟨_, ⟨j, rfl, hj⟩, fun nx => ?_⟩
            simp (disch := omega) only [gi_nI, tn_nI, hs_1, hs_2, hs_3, hs_4, hs_5, hs_6, hs_7, hs_s, hs_m, hs_h, hs_t, lit_nI, nI_add, nI_mul, nI_eq, nI_leI, nI_ltI, nm_i, bd_s, Nat.one_ne_zero, Nat.zero_ne_one, Nat.reduceEqDiff, Nat.reduceLeDiff, Nat.reduceLT, Nat.reduceAdd, Nat.reduceSub, Nat.reduceMul, e10, e01, en1, en2, en3, en4, en6, rq1, rq2, rq3, rq4, rq6, rm1, rm2, rm3, rm4, rm6, fz0, fz1, X5_bound_e, X5_isIn_e, Nat.lt_irrefl, Nat.le_refl, Nat.not_lt_zero, Nat.zero_le, n9a, n9b, n9c, n9d, n9e, n9f, n9g, o0, o3, h1, h3, su_hs, gu_gu, e6, h5, ↓reduceIte]
          · rw [be_t ⟨h3, h4⟩]
            have h5 : (be c m j).2 < nI (rcA (gu c 7 m j)) := Int32.not_le.mp h4
            refine ⟨_, ⟨j, rfl, hj⟩, fun nx => ?_⟩
            simp (disch := omega) only [gi_nI, tn_nI, hs_1, hs_2, hs_3, hs_4, hs_5, hs_6, hs_7, hs_s, hs_m, hs_h, hs_t, lit_nI, nI_add, nI_mul, nI_eq, nI_leI, nI_ltI, nm_i, bd_s, Nat.one_ne_zero, Nat.zero_ne_one, Nat.reduceEqDiff, Nat.reduceLeDiff, Nat.reduceLT, Nat.reduceAdd, Nat.reduceSub, Nat.reduceMul, e10, e01, en1, en2, en3, en4, en6, rq1, rq2, rq3, rq4, rq6, rm1, rm2, rm3, rm4, rm6, fz0, fz1, X5_bound_e, X5_isIn_e, Nat.lt_irrefl, Nat.le_refl, Nat.not_lt_zero, Nat.zero_le, n9a, n9b, n9c, n9d, n9e, n9f, n9g, o0, o3, h1, h3, su_hs, gu_gu, e6, h5, ↓reduceIte]
        · rw [be_f (fun z => h3 z.1)]
          have h6 : ¬ c 3 j ≤ 0 := by omega
          refine ⟨_, ⟨x, rfl, hx⟩, fun nx => ?_⟩
          simp (disch := omega) only [gi_nI, tn_nI, hs_1, hs_2, hs_3, hs_4, hs_5, hs_6, hs_7, hs_s, hs_m, hs_h, hs_t, lit_nI, nI_add, nI_mul, nI_eq, nI_leI, nI_ltI, nm_i, bd_s, Nat.one_ne_zero, Nat.zero_ne_one, Nat.reduceEqDiff, Nat.reduceLeDiff, Nat.reduceLT, Nat.reduceAdd, Nat.reduceSub, Nat.reduceMul, e10, e01, en1, en2, en3, en4, en6, rq1, rq2, rq3, rq4, rq6, rm1, rm2, rm3, rm4, rm6, fz0, fz1, X5_bound_e, X5_isIn_e, Nat.lt_irrefl, Nat.le_refl, Nat.not_lt_zero, Nat.zero_le, n9a, n9b, n9c, n9d, n9e, n9f, n9g, o0, o3, h1, h6, ↓reduceIte]
      · obtain ⟨x, rfl, hx⟩ := hs1
        refine ⟨_, rfl, fun nx => ?_⟩
        have o0 : gu c 7 m x 16 0 = c 16 0 := gu_a (by decide)
        simp (disch := omega) only [gi_nI, tn_nI, hs_1, hs_2, hs_3, hs_4, hs_5, hs_6, hs_7, hs_s, hs_m, hs_h, hs_t, lit_nI, nI_add, nI_mul, nI_eq, nI_leI, nI_ltI, nm_i, bd_s, Nat.one_ne_zero, Nat.zero_ne_one, Nat.reduceEqDiff, Nat.reduceLeDiff, Nat.reduceLT, Nat.reduceAdd, Nat.reduceSub, Nat.reduceMul, e10, e01, en1, en2, en3, en4, en6, rq1, rq2, rq3, rq4, rq6, rm1, rm2, rm3, rm4, rm6, fz0, fz1, X5_bound_e, X5_isIn_e, Nat.lt_irrefl, Nat.le_refl, Nat.not_lt_zero, Nat.zero_le, n9a, n9b, n9c, n9d, n9e, n9f, n9g, o0, su_hs, gu_gu, gu_same, ↓reduceIte]
    obtain ⟨_, a1, x, rfl, hx⟩ := c0
    obtain ⟨_, a2, rfl⟩ := c5
    exact ⟨_, _, q, _, a1, a2, c, _, kc, Gn, Gt, Gk, GM, rfl, rfl, rfl, rfl, hG, Zc_gu hG.2.1 (vd7 (by decide) (by decide) (by omega)), hK, hS⟩
  · obtain ⟨e1, -⟩ := hn Gn
    obtain ⟨-, e2⟩ := hn GM
    refine ⟨-nI 1, _, rf q 1, rf (hs c GM) 1, ?_, ?_, hQ.ref 1⟩
    · unfold f_X4_berth
      simp (disch := omega) only [gi_nI, tn_nI, hs_1, hs_2, hs_3, hs_4, hs_5, hs_6, hs_7, hs_s, hs_m, hs_h, hs_t, lit_nI, nI_add, nI_mul, nI_eq, nI_leI, nI_ltI, nm_i, bd_s, Nat.one_ne_zero, Nat.zero_ne_one, Nat.reduceEqDiff, Nat.reduceLeDiff, Nat.reduceLT, Nat.reduceAdd, Nat.reduceSub, Nat.reduceMul, e10, e01, en1, en2, en3, en4, en6, rq1, rq2, rq3, rq4, rq6, rm1, rm2, rm3, rm4, rm6, fz0, fz1, X5_bound_e, X5_isIn_e, Nat.lt_irrefl, Nat.le_refl, Nat.not_lt_zero, Nat.zero_le, n9a, n9b, n9c, n9d, n9e, n9f, n9g, e1, ↓reduceIte]
    · unfold f_X5_berth
      simp (disch := omega) only [gi_nI, tn_nI, hs_1, hs_2, hs_3, hs_4, hs_5, hs_6, hs_7, hs_s, hs_m, hs_h, hs_t, lit_nI, nI_add, nI_mul, nI_eq, nI_leI, nI_ltI, nm_i, bd_s, Nat.one_ne_zero, Nat.zero_ne_one, Nat.reduceEqDiff, Nat.reduceLeDiff, Nat.reduceLT, Nat.reduceAdd, Nat.reduceSub, Nat.reduceMul, e10, e01, en1, en2, en3, en4, en6, rq1, rq2, rq3, rq4, rq6, rm1, rm2, rm3, rm4, rm6, fz0, fz1, X5_bound_e, X5_isIn_e, Nat.lt_irrefl, Nat.le_refl, Nat.not_lt_zero, Nat.zero_le, n9a, n9b, n9c, n9d, n9e, n9f, n9g, e2, ↓reduceIte]
/-! deal -/
theorem lp_in {σ ρ τ : Type} {F : (τ → Option ρ) → (σ → Option ρ) → σ → Option ρ} (I : Nat → σ → Prop) (Q : τ → Prop) (N : Nat) {s0 : σ} (h0 : I 0 s0) (hs : ∀ j, j < N → ∀ s, I j s → ∃ s', I (j + 1) s' ∧ ∀ k nx, F k nx s = nx s') (he : ∀ s, I N s → ∃ t, Q t ∧ ∀ k nx, F k nx s = k t) {n : Nat} (hn : N < n) : ∃ t, Q t ∧ ∀ k, lp (F k) n s0 = k t := by
  have key : ∀ d j n : Nat, j + d = N → d < n → ∀ s, I j s → ∃ t, Q t ∧ ∀ k, lp (F k) n s = k t := by
    intro d
    induction d with
    | zero =>
      intro j n hj hn s hI
      obtain ⟨n, rfl⟩ : ∃ k, n = k + 1 := ⟨n - 1, by omega⟩
      have : j = N := by omega
      subst this
      obtain ⟨t, h1, h2⟩ := he s hI
      exact ⟨t, h1, fun k => h2 k _⟩
    | succ d ih =>
      intro j n hj hn s hI
      obtain ⟨n, rfl⟩ : ∃ k, n = k + 1 := ⟨n - 1, by omega⟩
      obtain ⟨s', h1, h2⟩ := hs j (by omega) s hI
      obtain ⟨t, h3, h4⟩ := ih (j + 1) n (by omega) (by omega) s' h1
      refine ⟨t, h3, fun k => ?_⟩
      show F k (lp (F k) n) s = _
      rw [h2, h4]
  exact key N 0 n (by omega) hn s0 h0
/-- a and b having changed their ships -/
def sw (c : G2) (a b : Nat) : G2 := gu (gu c 7 a (c 7 b)) 7 b (c 7 a)
theorem Iv_sw {c : G2} {a b : Nat} (hI : Iv c) (ha : a < c 16 1) (hb : b < c 16 1) : Iv (sw c a b) := by
  have h1 := hI.2.2.2.2 a ha
  have h2 := hI.2.2.2.2 b hb
  refine Iv_gu7 (Iv_gu7 hI h2) ?_
  rw [gu_a (by decide)]
  exact h1
theorem Zc_sw {c : G2} {a b : Nat} (hI : Iv c) (hZ : Zc c) (ha : a < c 16 1) (hb : b < c 16 1) : Zc (sw c a b) := by
  have := hI.2.2.1
  exact Zc_gu (Zc_gu hZ (vd7 (by decide) (by decide) (by omega))) (vd7 (by decide) (by decide) (by omega))
def di (c : G2) (a : Nat) (st : Int32 × Int32) : Nat → Int32 × Int32
  | 0 => st
  | i + 1 => if ¬ c 7 a = c 7 (a + 1 + i) ∧ ¬ nI (rcA (sw c a (a + 1 + i))) ≤ (di c a st i).2 then (nI (10 * a + (a + 1 + i)), nI (rcA (sw c a (a + 1 + i)))) else di c a st i
theorem di_t {c : G2} {a i : Nat} {st : Int32 × Int32} (h : ¬ c 7 a = c 7 (a + 1 + i) ∧ ¬ nI (rcA (sw c a (a + 1 + i))) ≤ (di c a st i).2) : di c a st (i + 1) = (nI (10 * a + (a + 1 + i)), nI (rcA (sw c a (a + 1 + i)))) := by simp only [di]; rw [if_pos h]
theorem di_f {c : G2} {a i : Nat} {st : Int32 × Int32} (h : ¬ (¬ c 7 a = c 7 (a + 1 + i) ∧ ¬ nI (rcA (sw c a (a + 1 + i))) ≤ (di c a st i).2)) : di c a st (i + 1) = di c a st i := by simp only [di]; rw [if_neg h]
def dl (c : G2) : Nat → Int32 × Int32
  | 0 => (-nI 9, nI (rcA c))
  | a + 1 => di c a (dl c a) (c 16 1 - (a + 1))
theorem di_ge {c : G2} {a : Nat} {st : Int32 × Int32} (hI : Iv c) (ha : a < c 16 1) (h : -nI 9 ≤ st.2) : ∀ i, a + 1 + i ≤ c 16 1 → -nI 9 ≤ (di c a st i).2
  | 0, _ => h
  | i + 1, hi => by
    by_cases hx : ¬ c 7 a = c 7 (a + 1 + i) ∧ ¬ nI (rcA (sw c a (a + 1 + i))) ≤ (di c a st i).2
    · rw [di_t hx]
      have := rcA_le (Iv_sw hI ha (show a + 1 + i < c 16 1 by omega))
      dsimp only
      rw [n9c (by omega)]
      trivial
    · rw [di_f hx]
      exact di_ge hI ha h i (by omega)
theorem dl_ge {c : G2} (hI : Iv c) : ∀ a, a ≤ c 16 1 → -nI 9 ≤ (dl c a).2
  | 0, _ => by
    have := rcA_le hI
    show -nI 9 ≤ nI (rcA c)
    rw [n9c (by omega)]
    trivial
  | a + 1, h => di_ge hI (by omega) (dl_ge hI a (by omega)) _ (by omega)
theorem X4_rhc {c d : G2} {Gn Gt k g w z q : St} {a b : Nat} (hI : Iv c) (hZ : Zc c) (hd : Zc d) (ha : a < c 16 1) (hb : b < c 16 1) : f_X4_risableHavingChanged (hs c Gn) (hs d Gt) k g w z q (nI a) (nI b) = some (nI (rcA (sw c a b)), hs (sw c a b) Gt) := by
  have hN := hI.2.2.1
  have e1 := X0_copyFrom (G := Gn) (Gt := Gt) hZ hd
  have e2 := X0_countRisable (G := Gt) (Iv_sw hI ha hb)
  have e3 : gu (gu c 7 a (c 7 b)) 7 b (c 7 a) = sw c a b := rfl
  unfold f_X4_risableHavingChanged
  simp (disch := omega) only [gi_nI, tn_nI, hs_1, hs_2, hs_3, hs_4, hs_5, hs_6, hs_7, hs_s, hs_m, hs_h, hs_t, lit_nI, nI_add, nI_mul, nI_eq, nI_leI, nI_ltI, nm_i, bd_s, Nat.one_ne_zero, Nat.zero_ne_one, Nat.reduceEqDiff, Nat.reduceLeDiff, Nat.reduceLT, Nat.reduceAdd, Nat.reduceSub, Nat.reduceMul, e10, e01, en1, en2, en3, en4, en6, rq1, rq2, rq3, rq4, rq6, rm1, rm2, rm3, rm4, rm6, fz0, fz1, X5_bound_e, X5_isIn_e, Nat.lt_irrefl, Nat.le_refl, Nat.not_lt_zero, Nat.zero_le, n9a, n9b, n9c, n9d, n9e, n9f, n9g, e1, su_hs, e3, e2, ↓reduceIte]
theorem X5_rd {c : G2} {GM : St} {a b : Nat} (hI : Iv c) (ha : a < c 16 1) (hb : b < c 16 1) (hab : a ≠ b) : f_X5_riseDealing (hs c GM) (nI a) (nI b) = some (nI (rcA (sw c a b)), hs c GM) := by
  have hN := hI.2.2.1
  have e2 := X5_canRiseOnes (G := GM) (Iv_sw hI ha hb)
  have e3 : gu (gu c 7 a (c 7 b)) 7 b (c 7 a) = sw c a b := rfl
  have e4 : sw c a b 7 a = c 7 b := by
    unfold sw
    rw [gu_k hab, gu_s]
  have e5 : gu (gu (sw c a b) 7 b (c 7 b)) 7 a (c 7 a) = c := by
    funext i j
    unfold sw gu
    by_cases h : i = 7
    · subst h
      by_cases h1 : j = a
      · subst h1; simp
      · by_cases h2 : j = b
        · subst h2; simp [h1]
        · simp [h1, h2]
    · simp [h]
  unfold f_X5_riseDealing
  simp (disch := omega) only [gi_nI, tn_nI, hs_1, hs_2, hs_3, hs_4, hs_5, hs_6, hs_7, hs_s, hs_m, hs_h, hs_t, lit_nI, nI_add, nI_mul, nI_eq, nI_leI, nI_ltI, nm_i, bd_s, Nat.one_ne_zero, Nat.zero_ne_one, Nat.reduceEqDiff, Nat.reduceLeDiff, Nat.reduceLT, Nat.reduceAdd, Nat.reduceSub, Nat.reduceMul, e10, e01, en1, en2, en3, en4, en6, rq1, rq2, rq3, rq4, rq6, rm1, rm2, rm3, rm4, rm6, fz0, fz1, X5_bound_e, X5_isIn_e, Nat.lt_irrefl, Nat.le_refl, Nat.not_lt_zero, Nat.zero_le, n9a, n9b, n9c, n9d, n9e, n9f, n9g, su_hs, e3, e2, e4, e5, ↓reduceIte]
