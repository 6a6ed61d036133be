/-! THE LETTERS: the reference's statement -/
def Pg (k : Nat) (G G' : St) : Prop := ∀ i j, ¬ (i = 11 ∧ 4 * k ≤ j ∧ j < 4 * k + 4) → ¬ (i = 16 ∧ j = 5) → G' i j = G i j
theorem Pg.rf {k : Nat} {G : St} : Pg k G G := fun _ _ _ _ => rfl
theorem Pg.tr {k : Nat} {G G' G'' : St} (h1 : Pg k G G') (h2 : Pg k G' G'') : Pg k G G'' := fun i j a b => (h2 i j a b).trans (h1 i j a b)
theorem Pg.s5 {k : Nat} {G : St} {v : Int32} : Pg k G (su G 16 5 v) := fun i j _ b => su_ne b
theorem Pg.s11 {k P : Nat} {G : St} {v : Int32} (h1 : 4 * k ≤ P) (h2 : P < 4 * k + 4) : Pg k G (su G 11 P v) := fun i j a _ => su_ne (fun z => a ⟨z.1, by omega, by omega⟩)
def Tp (T : Nat → Nat) (L : Nat) (G : St) : Prop := G 16 4 = nI L ∧ ∀ j, j < L → G 8 j = nI (T j)
theorem Tp.pg {T : Nat → Nat} {L k : Nat} {G G' : St} (h : Tp T L G) (hP : Pg k G G') : Tp T L G' := ⟨by rw [hP 16 4 (by omega) (by omega)]; exact h.1, fun j hj => by rw [hP 8 j (by omega) (by omega)]; exact h.2 j hj⟩
theorem n1q {v : Nat} (h : v < 2147483648) : (-nI 1 = nI v) = False := eq_false fun e => by
  have h1 : (-nI 1).toInt = -1 := by decide +kernel
  have h2 := nI_toInt h
  rw [e] at h1
  omega
theorem n1l {v : Nat} (h : v < 2147483648) : (-nI 1 < nI v) = True := eq_true (by
  have h1 : (-nI 1).toInt = -1 := by decide +kernel
  have h2 := nI_toInt h
  rw [Int32.lt_iff_toInt_lt]
  omega)
theorem n1m {v : Nat} (h : v < 2147483648) : (nI v ≤ -nI 1) = False := n1b h
theorem X5_nx {c : G2} {G : St} {T : Nat → Nat} {L p : Nat} (hT : Tp T L G) (hL : L ≤ 96) (hp : G 16 5 = nI p) (hp2 : p ≤ 96) : f_X5_next (hs c G) = some (if p < L then nI (T p) else -nI 1) := by
  have e4 : hs c G 16 4 = nI L := by rw [hs_16 (by omega)]; exact hT.1
  have e5 : hs c G 16 5 = nI p := by rw [hs_16 (by omega)]; exact hp
  unfold f_X5_next
  by_cases h : p < L
  · have h1 : ¬ L ≤ p := by omega
    have e8 : hs c G 8 p = nI (T p) := by rw [hs_o (by decide) (by decide)]; exact hT.2 p h
    rw [if_pos h]
    simp (disch := omega) only [gi_nI, tn_nI, hs_1, hs_2, hs_3, hs_4, hs_5, hs_6, hs_7, hs_s, hs_m, hs_h, hs_t, lit_nI, nI_add, nI_mul, nI_eq, nI_leI, nI_ltI, nm_j, bd_j, Nat.one_ne_zero, Nat.zero_ne_one, Nat.reduceEqDiff, Nat.reduceLeDiff, Nat.reduceLT, Nat.reduceAdd, Nat.reduceSub, Nat.reduceMul, e10, e01, en1, en2, en3, en4, en6, rq1, rq2, rq3, rq4, rq6, rm1, rm2, rm3, rm4, rm6, fz0, fz1, X5_bound_e, X5_isIn_e, Nat.lt_irrefl, Nat.le_refl, Nat.not_lt_zero, Nat.zero_le, n9a, n9b, n9c, n9d, n9e, n9f, n9g, e4, e5, h1, e8, ↓reduceIte]
  · have h1 : L ≤ p := by omega
    rw [if_neg h]
    simp (disch := omega) only [gi_nI, tn_nI, hs_1, hs_2, hs_3, hs_4, hs_5, hs_6, hs_7, hs_s, hs_m, hs_h, hs_t, lit_nI, nI_add, nI_mul, nI_eq, nI_leI, nI_ltI, nm_j, bd_j, Nat.one_ne_zero, Nat.zero_ne_one, Nat.reduceEqDiff, Nat.reduceLeDiff, Nat.reduceLT, Nat.reduceAdd, Nat.reduceSub, Nat.reduceMul, e10, e01, en1, en2, en3, en4, en6, rq1, rq2, rq3, rq4, rq6, rm1, rm2, rm3, rm4, rm6, fz0, fz1, X5_bound_e, X5_isIn_e, Nat.lt_irrefl, Nat.le_refl, Nat.not_lt_zero, Nat.zero_le, n9a, n9b, n9c, n9d, n9e, n9f, n9g, e4, e5, h1, ↓reduceIte]
def dg (T : Nat → Nat) (L p : Nat) : Prop := p < L ∧ 48 ≤ T p ∧ T p ≤ 57
theorem ft57 {x : Nat} : ft x 57 = true ↔ 48 ≤ x ∧ x ≤ 57 := by
  unfold ft
  simp
theorem ft59 {x : Nat} : ft x 59 = true ↔ x = 59 := by
  unfold ft
  simp
theorem ft107 {x : Nat} : ft x 107 = true ↔ kN x < 6 := by
  unfold ft
  simp
theorem ck_y {T : Nat → Nat} {L p ch : Nat} {r : List Nat} (h : p < L ∧ ft (T p) ch = true) : ck T L (ch :: r) p = ck T L r (p + 1) := by
  simp only [ck]
  rw [if_pos h]
theorem ck_n {T : Nat → Nat} {L p ch : Nat} {r : List Nat} (h : ¬ (p < L ∧ ft (T p) ch = true)) : ck T L (ch :: r) p = some p := by
  simp only [ck]
  rw [if_neg h]
theorem dg_e {T : Nat → Nat} {L p : Nat} : dg T L p ↔ (p < L ∧ ft (T p) 57 = true) := by
  unfold dg
  rw [ft57]
section RD
variable {c : G2} {G : St} {T : Nat → Nat} {L p P : Nat}
theorem isd_n (hT : Tp T L G) (hL : L ≤ 96) (hp : G 16 5 = nI p) (hp2 : p ≤ 96) (hT2 : ∀ j, T j < 256) (h : ¬ dg T L p) : ∃ x, f_X5_next (hs c G) = some x ∧ f_X5_isIn x (nI 48) (nI 57) = some (nI 0) := by
  refine ⟨_, X5_nx hT hL hp hp2, ?_⟩
  have b := hT2 p
  rw [X5_isIn_e]
  by_cases h1 : p < L
  · rw [if_pos h1]
    unfold dg at h
    by_cases h2 : T p < 48
    · simp (disch := omega) only [gi_nI, tn_nI, hs_1, hs_2, hs_3, hs_4, hs_5, hs_6, hs_7, hs_s, hs_m, hs_h, hs_t, lit_nI, nI_add, nI_mul, nI_eq, nI_leI, nI_ltI, nm_j, bd_j, Nat.one_ne_zero, Nat.zero_ne_one, Nat.reduceEqDiff, Nat.reduceLeDiff, Nat.reduceLT, Nat.reduceAdd, Nat.reduceSub, Nat.reduceMul, e10, e01, en1, en2, en3, en4, en6, rq1, rq2, rq3, rq4, rq6, rm1, rm2, rm3, rm4, rm6, fz0, fz1, X5_bound_e, X5_isIn_e, Nat.lt_irrefl, Nat.le_refl, Nat.not_lt_zero, Nat.zero_le, n9a, n9b, n9c, n9d, n9e, n9f, n9g, h2, ↓reduceIte]
    · have h3 : 57 < T p := by omega
      simp (disch := omega) only [gi_nI, tn_nI, hs_1, hs_2, hs_3, hs_4, hs_5, hs_6, hs_7, hs_s, hs_m, hs_h, hs_t, lit_nI, nI_add, nI_mul, nI_eq, nI_leI, nI_ltI, nm_j, bd_j, Nat.one_ne_zero, Nat.zero_ne_one, Nat.reduceEqDiff, Nat.reduceLeDiff, Nat.reduceLT, Nat.reduceAdd, Nat.reduceSub, Nat.reduceMul, e10, e01, en1, en2, en3, en4, en6, rq1, rq2, rq3, rq4, rq6, rm1, rm2, rm3, rm4, rm6, fz0, fz1, X5_bound_e, X5_isIn_e, Nat.lt_irrefl, Nat.le_refl, Nat.not_lt_zero, Nat.zero_le, n9a, n9b, n9c, n9d, n9e, n9f, n9g, h2, h3, ↓reduceIte]
  · rw [if_neg h1]
    simp (disch := omega) only [gi_nI, tn_nI, hs_1, hs_2, hs_3, hs_4, hs_5, hs_6, hs_7, hs_s, hs_m, hs_h, hs_t, lit_nI, nI_add, nI_mul, nI_eq, nI_leI, nI_ltI, nm_j, bd_j, Nat.one_ne_zero, Nat.zero_ne_one, Nat.reduceEqDiff, Nat.reduceLeDiff, Nat.reduceLT, Nat.reduceAdd, Nat.reduceSub, Nat.reduceMul, e10, e01, en1, en2, en3, en4, en6, rq1, rq2, rq3, rq4, rq6, rm1, rm2, rm3, rm4, rm6, fz0, fz1, X5_bound_e, X5_isIn_e, Nat.lt_irrefl, Nat.le_refl, Nat.not_lt_zero, Nat.zero_le, n9a, n9b, n9c, n9d, n9e, n9f, n9g, n1l, ↓reduceIte]
theorem isd_y (hT : Tp T L G) (hL : L ≤ 96) (hp : G 16 5 = nI p) (hT2 : ∀ j, T j < 256) (h : dg T L p) : f_X5_next (hs c G) = some (nI (T p)) ∧ f_X5_isIn (nI (T p)) (nI 48) (nI 57) = some (nI 1) := by
  obtain ⟨h1, h2, h3⟩ := h
  have e := X5_nx (c := c) hT hL hp (by omega)
  rw [if_pos h1] at e
  refine ⟨e, ?_⟩
  have b := hT2 p
  rw [X5_isIn_e]
  have h4 : ¬ T p < 48 := by omega
  have h5 : ¬ 57 < T p := by omega
  simp (disch := omega) only [gi_nI, tn_nI, hs_1, hs_2, hs_3, hs_4, hs_5, hs_6, hs_7, hs_s, hs_m, hs_h, hs_t, lit_nI, nI_add, nI_mul, nI_eq, nI_leI, nI_ltI, nm_j, bd_j, Nat.one_ne_zero, Nat.zero_ne_one, Nat.reduceEqDiff, Nat.reduceLeDiff, Nat.reduceLT, Nat.reduceAdd, Nat.reduceSub, Nat.reduceMul, e10, e01, en1, en2, en3, en4, en6, rq1, rq2, rq3, rq4, rq6, rm1, rm2, rm3, rm4, rm6, fz0, fz1, X5_bound_e, X5_isIn_e, Nat.lt_irrefl, Nat.le_refl, Nat.not_lt_zero, Nat.zero_le, n9a, n9b, n9c, n9d, n9e, n9f, n9g, h4, h5, ↓reduceIte]
theorem rd1_n (hT : Tp T L G) (hL : L ≤ 96) (hp : G 16 5 = nI p) (hp2 : p ≤ 96) (hT2 : ∀ j, T j < 256) (h : ¬ dg T L p) : f_X5_readsDigits (hs c G) (nI P) (nI 1) = some (nI 0, hs c G) := by
  obtain ⟨x, e1, e2⟩ := isd_n (c := c) hT hL hp hp2 hT2 h
  unfold f_X5_readsDigits
  rw [lp_u0]
  simp only [lit_nI, e1, e2, bd_j, e01, e10, nI_leI (show 1 < 2 ^ 31 by decide) (show 0 < 2 ^ 31 by decide), Nat.reduceLeDiff, ↓reduceIte, fzp0]
theorem rd1_y (hT : Tp T L G) (hL : L ≤ 96) (hp : G 16 5 = nI p) (hT2 : ∀ j, T j < 256) (hP : P < 192) (h : dg T L p) : f_X5_readsDigits (hs c G) (nI P) (nI 1) = some (nI 1, hs c (su (su G 16 5 (nI (p + 1))) 11 P (nI (T p - 48)))) := by
  obtain ⟨e1, e2⟩ := isd_y (c := c) hT hL hp hT2 h
  have e5 : hs c G 16 5 = nI p := by rw [hs_16 (by omega)]; exact hp
  have u1 : su (hs c G) 16 5 (nI (p + 1)) = hs c (su G 16 5 (nI (p + 1))) := su_hs16o (by decide)
  have u2 : su (hs c (su G 16 5 (nI (p + 1)))) 11 P (nI (T p - 48)) = hs c (su (su G 16 5 (nI (p + 1))) 11 P (nI (T p - 48))) := su_hso (by decide) (by decide)
  have h48 : 48 ≤ T p := h.2.1
  have ev : nI 10 * nI 0 + nI (T p) - nI 48 = nI (T p - 48) := by
    rw [nI_mul, nI_add, Nat.mul_zero, Nat.zero_add, nI_sub h48]
  unfold f_X5_readsDigits
  rw [lp_u0]
  simp only [lit_nI, e1, bd_j, nI_leI (show 1 < 2 ^ 31 by decide) (show 0 < 2 ^ 31 by decide), Nat.reduceLeDiff, ↓reduceIte, e2, e10, nm_j, ev, e5, nI_add, u1, Nat.reduceAdd]
  rw [lp_u1]
  simp (disch := omega) only [gi_nI, tn_nI, hs_1, hs_2, hs_3, hs_4, hs_5, hs_6, hs_7, hs_s, hs_m, hs_h, hs_t, lit_nI, nI_add, nI_mul, nI_eq, nI_leI, nI_ltI, nm_j, bd_j, Nat.one_ne_zero, Nat.zero_ne_one, Nat.reduceEqDiff, Nat.reduceLeDiff, Nat.reduceLT, Nat.reduceAdd, Nat.reduceSub, Nat.reduceMul, e10, e01, en1, en2, en3, en4, en6, rq1, rq2, rq3, rq4, rq6, rm1, rm2, rm3, rm4, rm6, fz0, fz1, X5_bound_e, X5_isIn_e, Nat.lt_irrefl, Nat.le_refl, Nat.not_lt_zero, Nat.zero_le, n9a, n9b, n9c, n9d, n9e, n9f, n9g, u2, fzp1, ↓reduceIte]
theorem rd2_n (hT : Tp T L G) (hL : L ≤ 96) (hp : G 16 5 = nI p) (hp2 : p ≤ 96) (hT2 : ∀ j, T j < 256) (h : ¬ dg T L p) : f_X5_readsDigits (hs c G) (nI P) (nI 2) = some (nI 0, hs c G) := by
  obtain ⟨x, e1, e2⟩ := isd_n (c := c) hT hL hp hp2 hT2 h
  unfold f_X5_readsDigits
  rw [lp_u0]
  simp only [lit_nI, e1, e2, bd_j, e01, e10, nI_leI (show 2 < 2 ^ 31 by decide) (show 0 < 2 ^ 31 by decide), Nat.reduceLeDiff, ↓reduceIte, fzp0]
theorem rd2_yn (hT : Tp T L G) (hL : L ≤ 96) (hp : G 16 5 = nI p) (hT2 : ∀ j, T j < 256) (h : dg T L p) (h2 : ¬ dg T L (p + 1)) : f_X5_readsDigits (hs c G) (nI P) (nI 2) = some (nI 0, hs c (su G 16 5 (nI (p + 1)))) := by
  obtain ⟨e1, e2⟩ := isd_y (c := c) hT hL hp hT2 h
  have e5 : hs c G 16 5 = nI p := by rw [hs_16 (by omega)]; exact hp
  have u1 : su (hs c G) 16 5 (nI (p + 1)) = hs c (su G 16 5 (nI (p + 1))) := su_hs16o (by decide)
  have h48 : 48 ≤ T p := h.2.1
  have hpL := h.1
  have hT3 : Tp T L (su G 16 5 (nI (p + 1))) := hT.pg (k := 0) Pg.s5
  obtain ⟨x, e3, e4⟩ := isd_n (c := c) hT3 hL su_at (by omega) hT2 h2
  have ev : nI 10 * nI 0 + nI (T p) - nI 48 = nI (T p - 48) := by
    rw [nI_mul, nI_add, Nat.mul_zero, Nat.zero_add, nI_sub h48]
  unfold f_X5_readsDigits
  rw [lp_u0]
  simp only [lit_nI, e1, bd_j, nI_leI (show 2 < 2 ^ 31 by decide) (show 0 < 2 ^ 31 by decide), Nat.reduceLeDiff, ↓reduceIte, e2, e10, nm_j, ev, e5, nI_add, u1, Nat.reduceAdd]
  rw [lp_u1]
  simp only [e3, e4, bd_j, e01, e10, nI_leI (show 2 < 2 ^ 31 by decide) (show 1 < 2 ^ 31 by decide), Nat.reduceLeDiff, ↓reduceIte, fzp0]
theorem rd2_yy (hT : Tp T L G) (hL : L ≤ 96) (hp : G 16 5 = nI p) (hT2 : ∀ j, T j < 256) (hP : P < 192) (h : dg T L p) (h2 : dg T L (p + 1)) : f_X5_readsDigits (hs c G) (nI P) (nI 2) = some (nI 1, hs c (su (su G 16 5 (nI (p + 2))) 11 P (nI (10 * (T p - 48) + (T (p + 1) - 48))))) := by
  obtain ⟨e1, e2⟩ := isd_y (c := c) hT hL hp hT2 h
  have e5 : hs c G 16 5 = nI p := by rw [hs_16 (by omega)]; exact hp
  have u1 : su (hs c G) 16 5 (nI (p + 1)) = hs c (su G 16 5 (nI (p + 1))) := su_hs16o (by decide)
  have h48 : 48 ≤ T p := h.2.1
  have h49 : 48 ≤ T (p + 1) := h2.2.1
  have hT3 : Tp T L (su G 16 5 (nI (p + 1))) := hT.pg (k := 0) Pg.s5
  obtain ⟨e3, e4⟩ := isd_y (c := c) hT3 hL su_at hT2 h2
  have e6 : hs c (su G 16 5 (nI (p + 1))) 16 5 = nI (p + 1) := by rw [hs_16 (by omega), su_at]
  have u3 : su (hs c (su G 16 5 (nI (p + 1)))) 16 5 (nI (p + 1 + 1)) = hs c (su G 16 5 (nI (p + 2))) := by rw [su_hs16o (by decide), su_su]
  have ev : nI 10 * nI 0 + nI (T p) - nI 48 = nI (T p - 48) := by
    rw [nI_mul, nI_add, Nat.mul_zero, Nat.zero_add, nI_sub h48]
  have ev2 : nI 10 * nI (T p - 48) + nI (T (p + 1)) - nI 48 = nI (10 * (T p - 48) + (T (p + 1) - 48)) := by
    rw [nI_mul, nI_add, nI_sub (by omega)]
    congr 1
    omega
  have u2 : su (hs c (su G 16 5 (nI (p + 2)))) 11 P (nI (10 * (T p - 48) + (T (p + 1) - 48))) = hs c (su (su G 16 5 (nI (p + 2))) 11 P (nI (10 * (T p - 48) + (T (p + 1) - 48)))) := su_hso (by decide) (by decide)
  unfold f_X5_readsDigits
  rw [lp_u0]
  simp only [lit_nI, e1, bd_j, nI_leI (show 2 < 2 ^ 31 by decide) (show 0 < 2 ^ 31 by decide), Nat.reduceLeDiff, ↓reduceIte, e2, e10, nm_j, ev, e5, nI_add, u1, Nat.reduceAdd]
  rw [lp_u1]
  simp only [e3, e4, bd_j, e10, nI_leI (show 2 < 2 ^ 31 by decide) (show 1 < 2 ^ 31 by decide), Nat.reduceLeDiff, ↓reduceIte, nm_j, ev2, e6, nI_add, u3, Nat.reduceAdd]
  rw [lp_u2]
  simp (disch := omega) only [gi_nI, tn_nI, hs_1, hs_2, hs_3, hs_4, hs_5, hs_6, hs_7, hs_s, hs_m, hs_h, hs_t, lit_nI, nI_add, nI_mul, nI_eq, nI_leI, nI_ltI, nm_j, bd_j, Nat.one_ne_zero, Nat.zero_ne_one, Nat.reduceEqDiff, Nat.reduceLeDiff, Nat.reduceLT, Nat.reduceAdd, Nat.reduceSub, Nat.reduceMul, e10, e01, en1, en2, en3, en4, en6, rq1, rq2, rq3, rq4, rq6, rm1, rm2, rm3, rm4, rm6, fz0, fz1, X5_bound_e, X5_isIn_e, Nat.lt_irrefl, Nat.le_refl, Nat.not_lt_zero, Nat.zero_le, n9a, n9b, n9c, n9d, n9e, n9f, n9g, u2, fzp1, ↓reduceIte]
end RD
theorem l_k5 : ∀ x, x < 256 → f_X5_kindOf (nI x) = some (if kN x < 6 then nI (kN x) else -nI 1) := by decide +kernel
theorem l_k5n : f_X5_kindOf (-nI 1) = some (-nI 1) := by decide +kernel
