/-! FEWEST -/
/-- a loop with fuel d, state t, told by g -/
theorem lp_k {σ ρ τ : Type} {f : (σ → Option ρ) → σ → Option ρ} (I : Nat → τ → σ → Prop) (g : Nat → τ → Option ρ) (hstep : ∀ d t s, I (d + 1) t s → (∀ nx, f nx s = g (d + 1) t) ∨ ∃ t' s', I d t' s' ∧ g d t' = g (d + 1) t ∧ ∀ nx, f nx s = nx s') (h0 : ∀ t s, I 0 t s → ∀ nx, f nx s = g 0 t) : ∀ d t s n, I d t s → d < n → lp f n s = g d t
  | 0, t, s, n, hI, hn => by
    obtain ⟨n, rfl⟩ : ∃ k, n = k + 1 := ⟨n - 1, by omega⟩
    exact h0 t s hI _
  | d + 1, t, s, n, hI, hn => by
    obtain ⟨n, rfl⟩ : ∃ k, n = k + 1 := ⟨n - 1, by omega⟩
    rcases hstep d t s hI with h | ⟨t', s', h1, h2, h3⟩
    · exact h _
    · show f (lp f n) s = _
      rw [h3, lp_k I g hstep h0 d t' s' n h1 (by omega), h2]
/-- the greatest of f below j, and its least place -/
def dm (f : Nat → Nat) : Nat → Nat
  | 0 => 0
  | j + 1 => if dm f j < f j then f j else dm f j
def db (f : Nat → Nat) : Nat → Nat
  | 0 => 0
  | j + 1 => if dm f j < f j then j else db f j
theorem dm_t {f : Nat → Nat} {j : Nat} (h : dm f j < f j) : dm f (j + 1) = f j := by simp only [dm]; rw [if_pos h]
theorem dm_f {f : Nat → Nat} {j : Nat} (h : ¬ dm f j < f j) : dm f (j + 1) = dm f j := by simp only [dm]; rw [if_neg h]
theorem db_t {f : Nat → Nat} {j : Nat} (h : dm f j < f j) : db f (j + 1) = j := by simp only [db]; rw [if_pos h]
theorem db_f {f : Nat → Nat} {j : Nat} (h : ¬ dm f j < f j) : db f (j + 1) = db f j := by simp only [db]; rw [if_neg h]
theorem db_s {f : Nat → Nat} : ∀ j, 0 < dm f j → db f j < j ∧ f (db f j) = dm f j
  | 0, h => absurd h (Nat.lt_irrefl 0)
  | j + 1, h => by
    by_cases hx : dm f j < f j
    · rw [db_t hx, dm_t hx]
      exact ⟨by omega, rfl⟩
    · rw [db_f hx, dm_f hx]
      rw [dm_f hx] at h
      have := db_s j h
      exact ⟨by omega, this.2⟩
theorem dm_le {f : Nat → Nat} {B : Nat} (h : ∀ k, f k ≤ B) : ∀ j, dm f j ≤ B
  | 0 => Nat.zero_le _
  | j + 1 => by
    have := dm_le h j
    have := h j
    simp only [dm]
    split <;> omega
theorem dm_0 {f : Nat → Nat} : ∀ j, (∀ k, k < j → f k = 0) → dm f j = 0
  | 0, _ => rfl
  | j + 1, h => by
    have e := dm_0 (f := f) j (fun k hk => h k (by omega))
    have e2 := h j (by omega)
    simp only [dm]
    rw [e, e2]
    rfl
def dA (f : Nat → Nat) (j : Nat) : Int32 := if dm f j = 0 then -nI 9 else nI (db f j)
/-- the array 13 below j is a -/
def aj (G : St) (j : Nat) (a : Nat → Nat) : St := fun i k => if i = 13 ∧ k < j then nI (a k) else G i k
theorem aj_0 {G : St} {a : Nat → Nat} : aj G 0 a = G := by funext i k; simp [aj]
theorem aj_s {G : St} {j : Nat} {a : Nat → Nat} : su (aj G j a) 13 j (nI (a j)) = aj G (j + 1) a := by
  funext i k
  by_cases h : i = 13 ∧ k = j
  · rw [h.1, h.2, su_at]; simp [aj]
  · rw [su_ne h]
    unfold aj
    by_cases h2 : i = 13
    · have e3 : (k < j + 1) = (k < j) := by apply propext; omega
      simp [h2, e3]
    · simp [h2]
theorem aj_u {G : St} {j m v : Nat} {a : Nat → Nat} (h : m < j) : su (aj G j a) 13 m (nI v) = aj G j (fun k => if k = m then v else a k) := by
  funext i k
  by_cases h1 : i = 13 ∧ k = m
  · rw [h1.1, h1.2, su_at]; simp [aj, h]
  · rw [su_ne h1]
    unfold aj
    by_cases h2 : i = 13
    · have : k ≠ m := fun e => h1 ⟨h2, e⟩
      simp [h2, this]
    · simp [h2]
theorem aj_o {G : St} {j i : Nat} {a : Nat → Nat} (h : i ≠ 13) : aj G j a i = G i := by funext k; simp [aj, h]
theorem aj_r {c : G2} {G : St} {m : Nat} {a : Nat → Nat} (h : m < 8) : hs c (aj G 8 a) 13 m = nI (a m) := by
  rw [hs_o (by decide) (by decide)]
  simp [aj, h]
theorem aj_w {c : G2} {G : St} {m v : Nat} {a : Nat → Nat} (h : m < 8) : su (hs c (aj G 8 a)) 13 m (nI v) = hs c (aj G 8 (fun k => if k = m then v else a k)) := by
  rw [su_hso (by decide) (by decide), aj_u h]
theorem Sx.aj {kc : G2} {g w q GM : St} {a : Nat → Nat} (h : Sx kc g w q GM) : Sx kc g w q (aj GM 8 a) := h.sd ⟨fun e => by rw [aj_o (by decide)]; exact e, rfl, aj_o (by decide), aj_o (by decide), fun k _ => by rw [aj_o (by decide)], fun j _ => by rw [aj_o (by decide)]⟩
/-- what the next word of m would be worth to s -/
def wz (c : G2) (s : Nat) (a : Nat → Nat) (m : Nat) : Nat := if c 7 m = s ∧ a m < c 6 m then wth c m else 0
theorem wz_le {c : G2} {s : Nat} {a : Nat → Nat} (hI : Iv c) (m : Nat) : wz c s a m ≤ 20003 := by
  have := wth_le (m := m) hI
  unfold wz
  split <;> omega
theorem X0_dear {c : G2} {G : St} {s : Nat} {a : Nat → Nat} (hI : Iv c) (ha : ∀ m, a m ≤ c 6 m) (h : s < 5) : f_X0_dearestLeft (hs c (aj G 8 a)) (nI s) = some (dA (wz c s a) (c 16 1)) := by
  have hN := hI.2.2.1
  unfold f_X0_dearestLeft
  refine lp_d (S := fun j => (dA (wz c s a) j, nI (dm (wz c s a) j), nI j)) (c 16 1) rfl (fun j hj nx => ?_) (fun nx => ?_) (by omega)
  · have h1 : ¬ c 16 1 ≤ j := by omega
    have h7 := hI.2.2.2.2 j hj
    have hN5 := hI.2.1
    have b6 := hI.1 6 j
    have ba := ha j
    have er := aj_r (c := c) (G := G) (a := a) (show j < 8 by omega)
    have ew := X0_worth (G := aj G 8 a) hI (show j < 8 by omega)
    have bw := wth_le (m := j) hI
    have bd0 := dm_le (fun k => wz_le (s := s) (a := a) hI k) j
    simp (disch := omega) only [gi_nI, tn_nI, hs_1, hs_2, hs_3, hs_4, hs_5, hs_6, hs_7, hs_s, hs_m, hs_h, hs_t, lit_nI, nI_add, nI_mul, nI_eq, nI_leI, nI_ltI, nm_i, bd_s, Nat.one_ne_zero, Nat.zero_ne_one, Nat.reduceEqDiff, Nat.reduceLeDiff, Nat.reduceLT, Nat.reduceAdd, Nat.reduceSub, Nat.reduceMul, e10, e01, en1, en2, en3, en4, en6, rq1, rq2, rq3, rq4, rq6, rm1, rm2, rm3, rm4, rm6, fz0, fz1, X5_bound_e, X5_isIn_e, Nat.lt_irrefl, Nat.le_refl, Nat.not_lt_zero, Nat.zero_le, n9a, n9b, n9c, n9d, n9e, n9f, n9g, h1, er, ew, ↓reduceIte]
    by_cases h2 : c 7 j = s
    · by_cases h3 : c 6 j ≤ a j
      · have e0 : wz c s a j = 0 := by unfold wz; rw [if_neg (by omega)]
        have e1 : ¬ dm (wz c s a) j < wz c s a j := by omega
        simp only [h2, h3, dA, dm_f e1, db_f e1, ↓reduceIte]
      · have e0 : wz c s a j = wth c j := by unfold wz; rw [if_pos ⟨h2, by omega⟩]
        by_cases h4 : wth c j ≤ dm (wz c s a) j
        · have e1 : ¬ dm (wz c s a) j < wz c s a j := by omega
          simp only [h2, h3, h4, dA, dm_f e1, db_f e1, ↓reduceIte]
        · have e1 : dm (wz c s a) j < wz c s a j := by omega
          have e2 : ¬ wth c j = 0 := by omega
          simp only [h2, h3, h4, dA, dm_t e1, db_t e1, e0, e2, ↓reduceIte]
    · have e0 : wz c s a j = 0 := by unfold wz; rw [if_neg (fun z => h2 z.1)]
      have e1 : ¬ dm (wz c s a) j < wz c s a j := by omega
      simp only [h2, dA, dm_f e1, db_f e1, ↓reduceIte]
  · simp (disch := omega) only [gi_nI, tn_nI, hs_1, hs_2, hs_3, hs_4, hs_5, hs_6, hs_7, hs_s, hs_m, hs_h, hs_t, lit_nI, nI_add, nI_mul, nI_eq, nI_leI, nI_ltI, nm_i, bd_s, Nat.one_ne_zero, Nat.zero_ne_one, Nat.reduceEqDiff, Nat.reduceLeDiff, Nat.reduceLT, Nat.reduceAdd, Nat.reduceSub, Nat.reduceMul, e10, e01, en1, en2, en3, en4, en6, rq1, rq2, rq3, rq4, rq6, rm1, rm2, rm3, rm4, rm6, fz0, fz1, X5_bound_e, X5_isIn_e, Nat.lt_irrefl, Nat.le_refl, Nat.not_lt_zero, Nat.zero_le, n9a, n9b, n9c, n9d, n9e, n9f, n9g, ↓reduceIte]
theorem X5_dear {c : G2} {G : St} {s : Nat} {a : Nat → Nat} (hI : Iv c) (ha : ∀ m, a m ≤ c 6 m) (h : s < 5) : f_X5_loudestLeft (hs c (aj G 8 a)) (nI s) = some (dA (wz c s a) (c 16 1)) := by
  have hN := hI.2.2.1
  unfold f_X5_loudestLeft
  refine lp_d (S := fun j => (dA (wz c s a) j, nI j)) (c 16 1) rfl (fun j hj nx => ?_) (fun nx => ?_) (by omega)
  · have h1 : ¬ c 16 1 ≤ j := by omega
    have h7 := hI.2.2.2.2 j hj
    have hN5 := hI.2.1
    have b6 := hI.1 6 j
    have ba := ha j
    have er := aj_r (c := c) (G := G) (a := a) (show j < 8 by omega)
    have ew := X5_worth (G := aj G 8 a) hI (show j < 8 by omega)
    have bw := wth_le (m := j) hI
    have bd0 := dm_le (fun k => wz_le (s := s) (a := a) hI k) j
    simp (disch := omega) only [gi_nI, tn_nI, hs_1, hs_2, hs_3, hs_4, hs_5, hs_6, hs_7, hs_s, hs_m, hs_h, hs_t, lit_nI, nI_add, nI_mul, nI_eq, nI_leI, nI_ltI, nm_i, bd_s, Nat.one_ne_zero, Nat.zero_ne_one, Nat.reduceEqDiff, Nat.reduceLeDiff, Nat.reduceLT, Nat.reduceAdd, Nat.reduceSub, Nat.reduceMul, e10, e01, en1, en2, en3, en4, en6, rq1, rq2, rq3, rq4, rq6, rm1, rm2, rm3, rm4, rm6, fz0, fz1, X5_bound_e, X5_isIn_e, Nat.lt_irrefl, Nat.le_refl, Nat.not_lt_zero, Nat.zero_le, n9a, n9b, n9c, n9d, n9e, n9f, n9g, h1, er, ew, ↓reduceIte]
    by_cases h2 : c 7 j = s
    · by_cases h3 : c 6 j ≤ a j
      · have e0 : wz c s a j = 0 := by unfold wz; rw [if_neg (by omega)]
        have e1 : ¬ dm (wz c s a) j < wz c s a j := by omega
        simp only [h2, h3, dA, dm_f e1, db_f e1, ↓reduceIte]
      · have e0 : wz c s a j = wth c j := by unfold wz; rw [if_pos ⟨h2, by omega⟩]
        by_cases h4 : wth c j ≤ 0
        · have e1 : ¬ dm (wz c s a) j < wz c s a j := by omega
          simp only [h2, h3, h4, dA, dm_f e1, db_f e1, ↓reduceIte]
        · by_cases h5 : dm (wz c s a) j = 0
          · have e1 : dm (wz c s a) j < wz c s a j := by omega
            have e2 : ¬ wth c j = 0 := by omega
            simp only [h2, h3, h4, h5, dA, dm_t e1, db_t e1, e0, e2, n9n, ↓reduceIte]
          · have ds := db_s (f := wz c s a) j (by omega)
            have e3 : wth c (db (wz c s a) j) = dm (wz c s a) j := by
              rw [← ds.2]
              have : wz c s a (db (wz c s a) j) ≠ 0 := by rw [ds.2]; exact h5
              unfold wz at this ⊢
              split
              · rfl
              · rename_i hx
                rw [if_neg hx] at this
                exact absurd rfl this
            have ew2 := X5_worth (G := aj G 8 a) hI (show db (wz c s a) j < 8 by omega)
            rw [e3] at ew2
            by_cases h6 : wth c j ≤ dm (wz c s a) j
            · have e1 : ¬ dm (wz c s a) j < wz c s a j := by omega
              simp only [h2, h3, h4, h5, dA, dm_f e1, db_f e1, ↓reduceIte]
              simp (disch := omega) only [gi_nI, tn_nI, hs_1, hs_2, hs_3, hs_4, hs_5, hs_6, hs_7, hs_s, hs_m, hs_h, hs_t, lit_nI, nI_add, nI_mul, nI_eq, nI_leI, nI_ltI, nm_i, bd_s, Nat.one_ne_zero, Nat.zero_ne_one, Nat.reduceEqDiff, Nat.reduceLeDiff, Nat.reduceLT, Nat.reduceAdd, Nat.reduceSub, Nat.reduceMul, e10, e01, en1, en2, en3, en4, en6, rq1, rq2, rq3, rq4, rq6, rm1, rm2, rm3, rm4, rm6, fz0, fz1, X5_bound_e, X5_isIn_e, Nat.lt_irrefl, Nat.le_refl, Nat.not_lt_zero, Nat.zero_le, n9a, n9b, n9c, n9d, n9e, n9f, n9g, ew2, h6, ↓reduceIte]
            · have e1 : dm (wz c s a) j < wz c s a j := by omega
              have e2 : ¬ wth c j = 0 := by omega
              simp only [h2, h3, h4, h5, dA, dm_t e1, db_t e1, e0, e2, ↓reduceIte]
              simp (disch := omega) only [gi_nI, tn_nI, hs_1, hs_2, hs_3, hs_4, hs_5, hs_6, hs_7, hs_s, hs_m, hs_h, hs_t, lit_nI, nI_add, nI_mul, nI_eq, nI_leI, nI_ltI, nm_i, bd_s, Nat.one_ne_zero, Nat.zero_ne_one, Nat.reduceEqDiff, Nat.reduceLeDiff, Nat.reduceLT, Nat.reduceAdd, Nat.reduceSub, Nat.reduceMul, e10, e01, en1, en2, en3, en4, en6, rq1, rq2, rq3, rq4, rq6, rm1, rm2, rm3, rm4, rm6, fz0, fz1, X5_bound_e, X5_isIn_e, Nat.lt_irrefl, Nat.le_refl, Nat.not_lt_zero, Nat.zero_le, n9a, n9b, n9c, n9d, n9e, n9f, n9g, ew2, h6, ↓reduceIte]
    · have e0 : wz c s a j = 0 := by unfold wz; rw [if_neg (fun z => h2 z.1)]
      have e1 : ¬ dm (wz c s a) j < wz c s a j := by omega
      simp only [h2, dA, dm_f e1, db_f e1, ↓reduceIte]
  · simp (disch := omega) only [gi_nI, tn_nI, hs_1, hs_2, hs_3, hs_4, hs_5, hs_6, hs_7, hs_s, hs_m, hs_h, hs_t, lit_nI, nI_add, nI_mul, nI_eq, nI_leI, nI_ltI, nm_i, bd_s, Nat.one_ne_zero, Nat.zero_ne_one, Nat.reduceEqDiff, Nat.reduceLeDiff, Nat.reduceLT, Nat.reduceAdd, Nat.reduceSub, Nat.reduceMul, e10, e01, en1, en2, en3, en4, en6, rq1, rq2, rq3, rq4, rq6, rm1, rm2, rm3, rm4, rm6, fz0, fz1, X5_bound_e, X5_isIn_e, Nat.lt_irrefl, Nat.le_refl, Nat.not_lt_zero, Nat.zero_le, n9a, n9b, n9c, n9d, n9e, n9f, n9g, ↓reduceIte]
theorem X0_most {c : G2} {G : St} {a : Nat → Nat} (hI : Iv c) (ha : ∀ m, a m ≤ c 6 m) : f_X0_mostAsked (hs c (aj G 8 a)) = some (dA a (c 16 1)) := by
  have hN := hI.2.2.1
  unfold f_X0_mostAsked
  refine lp_d (S := fun j => (dA a j, nI (dm a j), nI j)) (c 16 1) rfl (fun j hj nx => ?_) (fun nx => ?_) (by omega)
  · have h1 : ¬ c 16 1 ≤ j := by omega
    have b6 := hI.1 6 j
    have ba := ha j
    have er := aj_r (c := c) (G := G) (a := a) (show j < 8 by omega)
    have bd0 := dm_le (f := a) (B := 9999) (fun k => Nat.le_trans (ha k) (hI.1 6 k)) j
    simp (disch := omega) only [gi_nI, tn_nI, hs_1, hs_2, hs_3, hs_4, hs_5, hs_6, hs_7, hs_s, hs_m, hs_h, hs_t, lit_nI, nI_add, nI_mul, nI_eq, nI_leI, nI_ltI, nm_i, bd_s, Nat.one_ne_zero, Nat.zero_ne_one, Nat.reduceEqDiff, Nat.reduceLeDiff, Nat.reduceLT, Nat.reduceAdd, Nat.reduceSub, Nat.reduceMul, e10, e01, en1, en2, en3, en4, en6, rq1, rq2, rq3, rq4, rq6, rm1, rm2, rm3, rm4, rm6, fz0, fz1, X5_bound_e, X5_isIn_e, Nat.lt_irrefl, Nat.le_refl, Nat.not_lt_zero, Nat.zero_le, n9a, n9b, n9c, n9d, n9e, n9f, n9g, h1, er, ↓reduceIte]
    by_cases h4 : a j ≤ dm a j
    · have e1 : ¬ dm a j < a j := by omega
      simp only [h4, dA, dm_f e1, db_f e1, ↓reduceIte]
    · have e1 : dm a j < a j := by omega
      have e2 : ¬ a j = 0 := by omega
      simp only [h4, dA, dm_t e1, db_t e1, e2, ↓reduceIte]
  · simp (disch := omega) only [gi_nI, tn_nI, hs_1, hs_2, hs_3, hs_4, hs_5, hs_6, hs_7, hs_s, hs_m, hs_h, hs_t, lit_nI, nI_add, nI_mul, nI_eq, nI_leI, nI_ltI, nm_i, bd_s, Nat.one_ne_zero, Nat.zero_ne_one, Nat.reduceEqDiff, Nat.reduceLeDiff, Nat.reduceLT, Nat.reduceAdd, Nat.reduceSub, Nat.reduceMul, e10, e01, en1, en2, en3, en4, en6, rq1, rq2, rq3, rq4, rq6, rm1, rm2, rm3, rm4, rm6, fz0, fz1, X5_bound_e, X5_isIn_e, Nat.lt_irrefl, Nat.le_refl, Nat.not_lt_zero, Nat.zero_le, n9a, n9b, n9c, n9d, n9e, n9f, n9g, ↓reduceIte]
theorem X5_most {c : G2} {G : St} {a : Nat → Nat} (hI : Iv c) (ha : ∀ m, a m ≤ c 6 m) : f_X5_tellsMost (hs c (aj G 8 a)) = some (dA a (c 16 1)) := by
  have hN := hI.2.2.1
  unfold f_X5_tellsMost
  refine lp_d (S := fun j => (dA a j, nI j)) (c 16 1) rfl (fun j hj nx => ?_) (fun nx => ?_) (by omega)
  · have h1 : ¬ c 16 1 ≤ j := by omega
    have b6 := hI.1 6 j
    have ba := ha j
    have er := aj_r (c := c) (G := G) (a := a) (show j < 8 by omega)
    have bd0 := dm_le (f := a) (B := 9999) (fun k => Nat.le_trans (ha k) (hI.1 6 k)) j
    simp (disch := omega) only [gi_nI, tn_nI, hs_1, hs_2, hs_3, hs_4, hs_5, hs_6, hs_7, hs_s, hs_m, hs_h, hs_t, lit_nI, nI_add, nI_mul, nI_eq, nI_leI, nI_ltI, nm_i, bd_s, Nat.one_ne_zero, Nat.zero_ne_one, Nat.reduceEqDiff, Nat.reduceLeDiff, Nat.reduceLT, Nat.reduceAdd, Nat.reduceSub, Nat.reduceMul, e10, e01, en1, en2, en3, en4, en6, rq1, rq2, rq3, rq4, rq6, rm1, rm2, rm3, rm4, rm6, fz0, fz1, X5_bound_e, X5_isIn_e, Nat.lt_irrefl, Nat.le_refl, Nat.not_lt_zero, Nat.zero_le, n9a, n9b, n9c, n9d, n9e, n9f, n9g, h1, er, ↓reduceIte]
    by_cases h3 : a j ≤ 0
    · have e1 : ¬ dm a j < a j := by omega
      simp only [h3, dA, dm_f e1, db_f e1, ↓reduceIte]
    · by_cases h5 : dm a j = 0
      · have e1 : dm a j < a j := by omega
        have e2 : ¬ a j = 0 := by omega
        simp only [h3, h5, dA, dm_t e1, db_t e1, e2, n9n, ↓reduceIte]
      · have ds := db_s (f := a) j (by omega)
        have er2 := aj_r (c := c) (G := G) (a := a) (show db a j < 8 by omega)
        rw [ds.2] at er2
        by_cases h4 : a j ≤ dm a j
        · have e1 : ¬ dm a j < a j := by omega
          simp only [h3, h5, dA, dm_f e1, db_f e1, ↓reduceIte]
          simp (disch := omega) only [gi_nI, tn_nI, hs_1, hs_2, hs_3, hs_4, hs_5, hs_6, hs_7, hs_s, hs_m, hs_h, hs_t, lit_nI, nI_add, nI_mul, nI_eq, nI_leI, nI_ltI, nm_i, bd_s, Nat.one_ne_zero, Nat.zero_ne_one, Nat.reduceEqDiff, Nat.reduceLeDiff, Nat.reduceLT, Nat.reduceAdd, Nat.reduceSub, Nat.reduceMul, e10, e01, en1, en2, en3, en4, en6, rq1, rq2, rq3, rq4, rq6, rm1, rm2, rm3, rm4, rm6, fz0, fz1, X5_bound_e, X5_isIn_e, Nat.lt_irrefl, Nat.le_refl, Nat.not_lt_zero, Nat.zero_le, n9a, n9b, n9c, n9d, n9e, n9f, n9g, er2, h4, ↓reduceIte]
        · have e1 : dm a j < a j := by omega
          have e2 : ¬ a j = 0 := by omega
          simp only [h3, h5, dA, dm_t e1, db_t e1, e2, ↓reduceIte]
          simp (disch := omega) only [gi_nI, tn_nI, hs_1, hs_2, hs_3, hs_4, hs_5, hs_6, hs_7, hs_s, hs_m, hs_h, hs_t, lit_nI, nI_add, nI_mul, nI_eq, nI_leI, nI_ltI, nm_i, bd_s, Nat.one_ne_zero, Nat.zero_ne_one, Nat.reduceEqDiff, Nat.reduceLeDiff, Nat.reduceLT, Nat.reduceAdd, Nat.reduceSub, Nat.reduceMul, e10, e01, en1, en2, en3, en4, en6, rq1, rq2, rq3, rq4, rq6, rm1, rm2, rm3, rm4, rm6, fz0, fz1, X5_bound_e, X5_isIn_e, Nat.lt_irrefl, Nat.le_refl, Nat.not_lt_zero, Nat.zero_le, n9a, n9b, n9c, n9d, n9e, n9f, n9g, er2, h4, ↓reduceIte]
  · simp (disch := omega) only [gi_nI, tn_nI, hs_1, hs_2, hs_3, hs_4, hs_5, hs_6, hs_7, hs_s, hs_m, hs_h, hs_t, lit_nI, nI_add, nI_mul, nI_eq, nI_leI, nI_ltI, nm_i, bd_s, Nat.one_ne_zero, Nat.zero_ne_one, Nat.reduceEqDiff, Nat.reduceLeDiff, Nat.reduceLT, Nat.reduceAdd, Nat.reduceSub, Nat.reduceMul, e10, e01, en1, en2, en3, en4, en6, rq1, rq2, rq3, rq4, rq6, rm1, rm2, rm3, rm4, rm6, fz0, fz1, X5_bound_e, X5_isIn_e, Nat.lt_irrefl, Nat.le_refl, Nat.not_lt_zero, Nat.zero_le, n9a, n9b, n9c, n9d, n9e, n9f, n9g, ↓reduceIte]
