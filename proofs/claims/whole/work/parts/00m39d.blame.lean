/-! BLAMELESS -/
theorem aod (x y z : Int32) : (x ||| y) &&& z = (x &&& z) ||| (y &&& z) := by
  apply Int32.toBitVec_inj.mp
  rw [Int32.toBitVec_and, Int32.toBitVec_or, Int32.toBitVec_or, Int32.toBitVec_and, Int32.toBitVec_and]
  ext i hi
  simp only [BitVec.getElem_and, BitVec.getElem_or]
  cases x.toBitVec[i] <;> cases y.toBitVec[i] <;> cases z.toBitVec[i] <;> rfl
theorem am1 (x : Int32) : x &&& (-nI 1) = x := by
  apply Int32.toBitVec_inj.mp
  rw [Int32.toBitVec_and]
  have e : (-nI 1).toBitVec = BitVec.allOnes 32 := by decide +kernel
  rw [e]
  exact BitVec.and_allOnes
theorem zam (x : Int32) : nI 0 &&& x = nI 0 := by
  apply Int32.toBitVec_inj.mp
  rw [Int32.toBitVec_and]
  have e : (nI 0).toBitVec = 0#32 := by decide +kernel
  rw [e]
  simp
theorem bta : ∀ j, j < 5 → ∀ a, a < 5 → bt j &&& (bt a ^^^ -nI 1) = if j = a then nI 0 else bt j := by decide +kernel
theorem btN_cut {P Q : Nat → Prop} [DecidablePred P] [DecidablePred Q] {a : Nat} (ha : a < 5) (h : ∀ s, Q s ↔ (P s ∧ s ≠ a)) : ∀ n, n ≤ 5 → btN P n &&& (bt a ^^^ -nI 1) = btN Q n
  | 0, _ => zam _
  | n + 1, hn => by
    have ih := btN_cut ha h n (by omega)
    have e := bta n (by omega) a ha
    by_cases hP : P n
    · rw [btN_t hP, aod, ih, e]
      by_cases h2 : n = a
      · rw [if_pos h2, btN_f (fun z => ((h n).mp z).2 h2), or0]
      · rw [if_neg h2, btN_t ((h n).mpr ⟨hP, h2⟩)]
    · rw [btN_f hP, ih, btN_f (fun z => hP ((h n).mp z).1)]
theorem btN_c {P Q : Nat → Prop} [DecidablePred P] [DecidablePred Q] : ∀ n, (∀ s, s < n → (Q s ↔ P s)) → btN P n = btN Q n
  | 0, _ => rfl
  | n + 1, h => by
    have ih := btN_c n (fun s hs1 => h s (by omega))
    by_cases hP : P n
    · rw [btN_t hP, ih, btN_t ((h n (by omega)).mpr hP)]
    · rw [btN_f hP, ih, btN_f (fun z => hP ((h n (by omega)).mp z))]
theorem bt1 : ∀ n, n < 6 → (nI 1 <<< (nI n &&& nI 31)) - nI 1 = btN (fun _ => True) n := by decide +kernel
def saN (c : G2) (s : Nat) : Nat → Nat
  | 0 => 0
  | k + 1 => saN c s k + if c 7 k = s then c 6 k else 0
theorem saN_le {c : G2} {s : Nat} (hI : Iv c) : ∀ k, saN c s k ≤ 9999 * k
  | 0 => by simp [saN]
  | k + 1 => by
    have h1 := saN_le (s := s) hI k
    have h3 := hI.1 6 k
    unfold saN
    split <;> omega
theorem X0_sinsAboard {c : G2} {G : St} {s : Nat} (hI : Iv c) (h : s < 5) : f_X0_sinsAboard (hs c G) (nI s) = some (nI (saN c s (c 16 1))) := by
  have hN := hI.2.2.1
  have hS := hI.2.1
  unfold f_X0_sinsAboard
  refine lp_d (S := fun j => (nI (saN c s j), nI j)) (c 16 1) rfl (fun j hj nx => ?_) (fun nx => ?_) (by omega)
  · have h1 : ¬ c 16 1 ≤ j := by omega
    have h2 := hI.2.2.2.2 j hj
    simp (disch := omega) only [gi_nI, tn_nI, hs_1, hs_2, hs_3, hs_4, hs_5, hs_6, hs_7, hs_s, hs_m, hs_h, hs_t, lit_nI, nI_add, nI_mul, nI_eq, nI_leI, nI_ltI, nm_i, bd_s, Nat.one_ne_zero, Nat.zero_ne_one, Nat.reduceEqDiff, Nat.reduceLeDiff, Nat.reduceLT, Nat.reduceAdd, Nat.reduceSub, Nat.reduceMul, e10, e01, en1, en2, en3, en4, en6, rq1, rq2, rq3, rq4, rq6, rm1, rm2, rm3, rm4, rm6, fz0, fz1, X5_bound_e, X5_isIn_e, Nat.lt_irrefl, Nat.le_refl, Nat.not_lt_zero, Nat.zero_le, n9a, n9b, n9c, n9d, n9e, n9f, n9g, h1, ↓reduceIte]
    by_cases h4 : c 7 j = s
    · simp only [h4, saN, ↓reduceIte]
    · simp only [h4, saN, ↓reduceIte, Nat.add_zero]
  · simp (disch := omega) only [gi_nI, tn_nI, hs_1, hs_2, hs_3, hs_4, hs_5, hs_6, hs_7, hs_s, hs_m, hs_h, hs_t, lit_nI, nI_add, nI_mul, nI_eq, nI_leI, nI_ltI, nm_i, bd_s, Nat.one_ne_zero, Nat.zero_ne_one, Nat.reduceEqDiff, Nat.reduceLeDiff, Nat.reduceLT, Nat.reduceAdd, Nat.reduceSub, Nat.reduceMul, e10, e01, en1, en2, en3, en4, en6, rq1, rq2, rq3, rq4, rq6, rm1, rm2, rm3, rm4, rm6, fz0, fz1, X5_bound_e, X5_isIn_e, Nat.lt_irrefl, Nat.le_refl, Nat.not_lt_zero, Nat.zero_le, n9a, n9b, n9c, n9d, n9e, n9f, n9g, ↓reduceIte]
theorem r_blameless {n t k g w z q M : St} (hR : R n t k g w z q M) : ∃ r, f_X4_blameless n t k g w z q = some r ∧ f_X5_blameless M = some r := by
  obtain ⟨c, ct, kc, Gn, Gt, Gk, GM, rfl, rfl, rfl, rfl, hG, hZ, hK, hS⟩ := hR
  have hI := hG.1
  have hS5 := hI.2.1
  have hN := hI.2.2.1
  refine ⟨btN (fun s => saN c s (c 16 1) = 0) (c 16 0), ?_, ?_⟩
  · unfold f_X4_blameless
    refine lp_d (S := fun j => (btN (fun s => saN c s (c 16 1) = 0) j, nI j)) (c 16 0) rfl (fun j hj nx => ?_) (fun nx => ?_) (by omega)
    · have h1 : ¬ c 16 0 ≤ j := by omega
      have e1 := X0_sinsAboard (G := Gn) hI (show j < 5 by omega)
      have b := saN_le (s := j) hI (c 16 1)
      by_cases h3 : saN c j (c 16 1) = 0
      · rw [btN_t (P := fun s => saN c s (c 16 1) = 0) h3]
        simp (disch := omega) only [gi_nI, tn_nI, hs_1, hs_2, hs_3, hs_4, hs_5, hs_6, hs_7, hs_s, hs_m, hs_h, hs_t, lit_nI, nI_add, nI_mul, nI_eq, nI_leI, nI_ltI, nm_i, bd_s, Nat.one_ne_zero, Nat.zero_ne_one, Nat.reduceEqDiff, Nat.reduceLeDiff, Nat.reduceLT, Nat.reduceAdd, Nat.reduceSub, Nat.reduceMul, e10, e01, en1, en2, en3, en4, en6, rq1, rq2, rq3, rq4, rq6, rm1, rm2, rm3, rm4, rm6, fz0, fz1, X5_bound_e, X5_isIn_e, Nat.lt_irrefl, Nat.le_refl, Nat.not_lt_zero, Nat.zero_le, n9a, n9b, n9c, n9d, n9e, n9f, n9g, h1, e1, h3, bt_e, ↓reduceIte]
      · rw [btN_f (P := fun s => saN c s (c 16 1) = 0) h3]
        simp (disch := omega) only [gi_nI, tn_nI, hs_1, hs_2, hs_3, hs_4, hs_5, hs_6, hs_7, hs_s, hs_m, hs_h, hs_t, lit_nI, nI_add, nI_mul, nI_eq, nI_leI, nI_ltI, nm_i, bd_s, Nat.one_ne_zero, Nat.zero_ne_one, Nat.reduceEqDiff, Nat.reduceLeDiff, Nat.reduceLT, Nat.reduceAdd, Nat.reduceSub, Nat.reduceMul, e10, e01, en1, en2, en3, en4, en6, rq1, rq2, rq3, rq4, rq6, rm1, rm2, rm3, rm4, rm6, fz0, fz1, X5_bound_e, X5_isIn_e, Nat.lt_irrefl, Nat.le_refl, Nat.not_lt_zero, Nat.zero_le, n9a, n9b, n9c, n9d, n9e, n9f, n9g, h1, e1, h3, ↓reduceIte]
    · simp (disch := omega) only [gi_nI, tn_nI, hs_1, hs_2, hs_3, hs_4, hs_5, hs_6, hs_7, hs_s, hs_m, hs_h, hs_t, lit_nI, nI_add, nI_mul, nI_eq, nI_leI, nI_ltI, nm_i, bd_s, Nat.one_ne_zero, Nat.zero_ne_one, Nat.reduceEqDiff, Nat.reduceLeDiff, Nat.reduceLT, Nat.reduceAdd, Nat.reduceSub, Nat.reduceMul, e10, e01, en1, en2, en3, en4, en6, rq1, rq2, rq3, rq4, rq6, rm1, rm2, rm3, rm4, rm6, fz0, fz1, X5_bound_e, X5_isIn_e, Nat.lt_irrefl, Nat.le_refl, Nat.not_lt_zero, Nat.zero_le, n9a, n9b, n9c, n9d, n9e, n9f, n9g, ↓reduceIte]
  · unfold f_X5_blameless
    have e0 := bt1 (c 16 0) (by omega)
    simp (disch := omega) only [gi_nI, tn_nI, hs_1, hs_2, hs_3, hs_4, hs_5, hs_6, hs_7, hs_s, hs_m, hs_h, hs_t, lit_nI, nI_add, nI_mul, nI_eq, nI_leI, nI_ltI, nm_i, bd_s, Nat.one_ne_zero, Nat.zero_ne_one, Nat.reduceEqDiff, Nat.reduceLeDiff, Nat.reduceLT, Nat.reduceAdd, Nat.reduceSub, Nat.reduceMul, e10, e01, en1, en2, en3, en4, en6, rq1, rq2, rq3, rq4, rq6, rm1, rm2, rm3, rm4, rm6, fz0, fz1, X5_bound_e, X5_isIn_e, Nat.lt_irrefl, Nat.le_refl, Nat.not_lt_zero, Nat.zero_le, n9a, n9b, n9c, n9d, n9e, n9f, n9g, e0, ↓reduceIte]
    refine lp_d (S := fun j => (btN (fun s => saN c s j = 0) (c 16 0), nI j)) (c 16 1) ?_ (fun j hj nx => ?_) (fun nx => ?_) (by omega)
    · show _ = (btN (fun s => saN c s 0 = 0) (c 16 0), nI 0)
      rw [btN_c (P := fun _ => True) (Q := fun s => saN c s 0 = 0) (c 16 0) (fun s _ => by simp [saN])]
    · have h1 : ¬ c 16 1 ≤ j := by omega
      have h7 := hI.2.2.2.2 j hj
      have b6 := hI.1 6 j
      by_cases h3 : c 6 j ≤ 0
      · have e : btN (fun s => saN c s (j + 1) = 0) (c 16 0) = btN (fun s => saN c s j = 0) (c 16 0) := by
          refine btN_c _ (fun s _ => ?_)
          simp only [saN]
          split <;> omega
        rw [e]
        simp (disch := omega) only [gi_nI, tn_nI, hs_1, hs_2, hs_3, hs_4, hs_5, hs_6, hs_7, hs_s, hs_m, hs_h, hs_t, lit_nI, nI_add, nI_mul, nI_eq, nI_leI, nI_ltI, nm_i, bd_s, Nat.one_ne_zero, Nat.zero_ne_one, Nat.reduceEqDiff, Nat.reduceLeDiff, Nat.reduceLT, Nat.reduceAdd, Nat.reduceSub, Nat.reduceMul, e10, e01, en1, en2, en3, en4, en6, rq1, rq2, rq3, rq4, rq6, rm1, rm2, rm3, rm4, rm6, fz0, fz1, X5_bound_e, X5_isIn_e, Nat.lt_irrefl, Nat.le_refl, Nat.not_lt_zero, Nat.zero_le, n9a, n9b, n9c, n9d, n9e, n9f, n9g, h1, h3, am1, ↓reduceIte]
      · have e := btN_cut (P := fun s => saN c s j = 0) (Q := fun s => saN c s (j + 1) = 0) (a := c 7 j) (by omega) (fun s => by
          simp only [saN]
          split <;> omega) (c 16 0) hS5
        rw [← e]
        simp (disch := omega) only [gi_nI, tn_nI, hs_1, hs_2, hs_3, hs_4, hs_5, hs_6, hs_7, hs_s, hs_m, hs_h, hs_t, lit_nI, nI_add, nI_mul, nI_eq, nI_leI, nI_ltI, nm_i, bd_s, Nat.one_ne_zero, Nat.zero_ne_one, Nat.reduceEqDiff, Nat.reduceLeDiff, Nat.reduceLT, Nat.reduceAdd, Nat.reduceSub, Nat.reduceMul, e10, e01, en1, en2, en3, en4, en6, rq1, rq2, rq3, rq4, rq6, rm1, rm2, rm3, rm4, rm6, fz0, fz1, X5_bound_e, X5_isIn_e, Nat.lt_irrefl, Nat.le_refl, Nat.not_lt_zero, Nat.zero_le, n9a, n9b, n9c, n9d, n9e, n9f, n9g, h1, h3, bt_e, ↓reduceIte]
    · simp (disch := omega) only [gi_nI, tn_nI, hs_1, hs_2, hs_3, hs_4, hs_5, hs_6, hs_7, hs_s, hs_m, hs_h, hs_t, lit_nI, nI_add, nI_mul, nI_eq, nI_leI, nI_ltI, nm_i, bd_s, Nat.one_ne_zero, Nat.zero_ne_one, Nat.reduceEqDiff, Nat.reduceLeDiff, Nat.reduceLT, Nat.reduceAdd, Nat.reduceSub, Nat.reduceMul, e10, e01, en1, en2, en3, en4, en6, rq1, rq2, rq3, rq4, rq6, rm1, rm2, rm3, rm4, rm6, fz0, fz1, X5_bound_e, X5_isIn_e, Nat.lt_irrefl, Nat.le_refl, Nat.not_lt_zero, Nat.zero_le, n9a, n9b, n9c, n9d, n9e, n9f, n9g, ↓reduceIte]
