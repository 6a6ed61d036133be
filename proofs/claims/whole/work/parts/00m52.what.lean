/-! WHAT ONE IS -/
theorem wi_kind {c ct kc : G2} {Gn Gt GM k g w z q : St} {m L : Nat} (hG : Gd c) (hZ : Zc ct) (hS : Sx kc g w q GM) (hm : m < c 16 1) (hw : w 1 0 = nI L) (hL : L ≤ 16) : ∃ r d G', f_X4_whatIs (hs c Gn) (hs ct Gt) k g w z q (nI m) (nI 0) = some (r, hs d Gt, q) ∧ f_X5_whatIs (hs c GM) (nI m) (nI 0) = some (r, hs c G') ∧ Zc d ∧ Sx kc g w q G' := by
  have hI := hG.1
  have hN := hI.2.2.1
  have e1 := X0_hasMan (G := Gn) hI (show m < 2147483648 by omega)
  have e2 := X5_isMan (G := GM) hI (show m < 2147483648 by omega)
  rw [if_pos hm] at e1 e2
  have hg : ∀ i, i < 6 → Gd (gu c 4 m i) := fun i hi => Gd_gu4 hG (show i ≤ 5 by omega) (by omega)
  obtain ⟨P, hP⟩ := dec_ex (fun i => can (gu c 4 m i) m ∧ so (tel (gu c 4 m i) m) (w 0) L)
  have c0 : ∃ r, f_X4_whatIs (hs c Gn) (hs ct Gt) k g w z q (nI m) (nI 0) = some r ∧ ∃ d, r = (btN (fun i => P i = true) 6, hs d Gt, q) ∧ Zc d := by
    unfold f_X4_whatIs
    rw [e1, bd_j, if_neg (show ¬ nI 1 = 0 by decide +kernel)]
    simp only [lit_nI, e10, ↓reduceIte]
    refine lp_r (fun j s => ∃ d, s = (btN (fun i => P i = true) j, nI j, hs d Gt) ∧ Zc d) _ 6 ⟨ct, rfl, hZ⟩ (fun j hj s hs1 => Or.inl ?_) (fun s hs1 => ?_) (by omega)
    · obtain ⟨d, rfl, hd⟩ := hs1
      have h1 : ¬ 6 ≤ j := by omega
      have e3 := X0_copyFrom (G := Gn) (Gt := Gt) hG.2.1 hd
      have hz := (Hd_tl (m := m) (hg j hj).hd).2.1
      rcases X4_rt (n := hs c Gn) (Gt := Gt) (k := k) (g := g) (z := z) (q := q) (m := m) (hg j hj).hd hw hL (by omega) with ⟨hy, e4⟩ | ⟨hy, e4⟩
      · rw [btN_t (P := fun i => P i = true) ((hP j).mpr hy)]
        refine ⟨_, ⟨_, rfl, hz⟩, fun nx => ?_⟩
        simp (disch := omega) only [gi_nI, tn_nI, hs_1, hs_2, hs_3, hs_4, hs_5, hs_6, hs_7, hs_s, hs_m, hs_h, hs_t, lit_nI, nI_add, nI_mul, nI_eq, nI_leI, nI_ltI, nm_j, bd_j, Nat.one_ne_zero, Nat.zero_ne_one, Nat.reduceEqDiff, Nat.reduceLeDiff, Nat.reduceLT, Nat.reduceAdd, Nat.reduceSub, Nat.reduceMul, e10, e01, en1, en2, en3, en4, en6, rq1, rq2, rq3, rq4, rq6, rm1, rm2, rm3, rm4, rm6, fz0, fz1, X5_bound_e, X5_isIn_e, Nat.lt_irrefl, Nat.le_refl, Nat.not_lt_zero, Nat.zero_le, n9a, n9b, n9c, n9d, n9e, n9f, n9g, h1, e3, su_hs, e4, bt_e, ↓reduceIte]
      · rw [btN_f (P := fun i => P i = true) (fun y => hy ((hP j).mp y))]
        refine ⟨_, ⟨_, rfl, hz⟩, fun nx => ?_⟩
        simp (disch := omega) only [gi_nI, tn_nI, hs_1, hs_2, hs_3, hs_4, hs_5, hs_6, hs_7, hs_s, hs_m, hs_h, hs_t, lit_nI, nI_add, nI_mul, nI_eq, nI_leI, nI_ltI, nm_j, bd_j, Nat.one_ne_zero, Nat.zero_ne_one, Nat.reduceEqDiff, Nat.reduceLeDiff, Nat.reduceLT, Nat.reduceAdd, Nat.reduceSub, Nat.reduceMul, e10, e01, en1, en2, en3, en4, en6, rq1, rq2, rq3, rq4, rq6, rm1, rm2, rm3, rm4, rm6, fz0, fz1, X5_bound_e, X5_isIn_e, Nat.lt_irrefl, Nat.le_refl, Nat.not_lt_zero, Nat.zero_le, n9a, n9b, n9c, n9d, n9e, n9f, n9g, h1, e3, su_hs, e4, ↓reduceIte]
    · obtain ⟨d, rfl, hd⟩ := hs1
      refine ⟨_, ⟨d, rfl, hd⟩, fun nx => ?_⟩
      simp (disch := omega) only [gi_nI, tn_nI, hs_1, hs_2, hs_3, hs_4, hs_5, hs_6, hs_7, hs_s, hs_m, hs_h, hs_t, lit_nI, nI_add, nI_mul, nI_eq, nI_leI, nI_ltI, nm_j, bd_j, Nat.one_ne_zero, Nat.zero_ne_one, Nat.reduceEqDiff, Nat.reduceLeDiff, Nat.reduceLT, Nat.reduceAdd, Nat.reduceSub, Nat.reduceMul, e10, e01, en1, en2, en3, en4, en6, rq1, rq2, rq3, rq4, rq6, rm1, rm2, rm3, rm4, rm6, fz0, fz1, X5_bound_e, X5_isIn_e, Nat.lt_irrefl, Nat.le_refl, Nat.not_lt_zero, Nat.zero_le, n9a, n9b, n9c, n9d, n9e, n9f, n9g, ↓reduceIte]
  have c5 : ∃ r, f_X5_bitsFor_a5 (hs c GM) (nI m) (nI 6) = some r ∧ ∃ G', r = (btN (fun i => P i = true) 6, hs c G') ∧ Sx kc g w q G' := by
    unfold f_X5_bitsFor_a5
    simp (disch := omega) only [gi_nI, tn_nI, hs_1, hs_2, hs_3, hs_4, hs_5, hs_6, hs_7, hs_s, hs_m, hs_h, hs_t, lit_nI, nI_add, nI_mul, nI_eq, nI_leI, nI_ltI, nm_j, bd_j, Nat.one_ne_zero, Nat.zero_ne_one, Nat.reduceEqDiff, Nat.reduceLeDiff, Nat.reduceLT, Nat.reduceAdd, Nat.reduceSub, Nat.reduceMul, e10, e01, en1, en2, en3, en4, en6, rq1, rq2, rq3, rq4, rq6, rm1, rm2, rm3, rm4, rm6, fz0, fz1, X5_bound_e, X5_isIn_e, Nat.lt_irrefl, Nat.le_refl, Nat.not_lt_zero, Nat.zero_le, n9a, n9b, n9c, n9d, n9e, n9f, n9g, ↓reduceIte]
    refine lp_r (fun j s => ∃ x G', s = (btN (fun i => P i = true) j, nI j, hs (gu c 4 m x) G') ∧ Sx kc g w q G') _ 6 ⟨c 4 m, GM, by rw [gu_same]; rfl, hS⟩ (fun j hj s hs1 => Or.inl ?_) (fun s hs1 => ?_) (by omega)
    · obtain ⟨x, G, rfl, hSG⟩ := hs1
      have h1 : ¬ 6 ≤ j := by omega
      obtain ⟨G', s1, ⟨hy, e4⟩ | ⟨hy, e4⟩⟩ := X5_sb (m := m) (hg j hj) hSG hw hL (by omega)
      · rw [btN_t (P := fun i => P i = true) ((hP j).mpr hy)]
        refine ⟨_, ⟨j, G', rfl, s1⟩, fun nx => ?_⟩
        simp (disch := omega) only [gi_nI, tn_nI, hs_1, hs_2, hs_3, hs_4, hs_5, hs_6, hs_7, hs_s, hs_m, hs_h, hs_t, lit_nI, nI_add, nI_mul, nI_eq, nI_leI, nI_ltI, nm_j, bd_j, Nat.one_ne_zero, Nat.zero_ne_one, Nat.reduceEqDiff, Nat.reduceLeDiff, Nat.reduceLT, Nat.reduceAdd, Nat.reduceSub, Nat.reduceMul, e10, e01, en1, en2, en3, en4, en6, rq1, rq2, rq3, rq4, rq6, rm1, rm2, rm3, rm4, rm6, fz0, fz1, X5_bound_e, X5_isIn_e, Nat.lt_irrefl, Nat.le_refl, Nat.not_lt_zero, Nat.zero_le, n9a, n9b, n9c, n9d, n9e, n9f, n9g, h1, su_hs, gu_gu, e4, bt_e, ↓reduceIte]
      · rw [btN_f (P := fun i => P i = true) (fun y => hy ((hP j).mp y))]
        refine ⟨_, ⟨j, G', rfl, s1⟩, fun nx => ?_⟩
        simp (disch := omega) only [gi_nI, tn_nI, hs_1, hs_2, hs_3, hs_4, hs_5, hs_6, hs_7, hs_s, hs_m, hs_h, hs_t, lit_nI, nI_add, nI_mul, nI_eq, nI_leI, nI_ltI, nm_j, bd_j, Nat.one_ne_zero, Nat.zero_ne_one, Nat.reduceEqDiff, Nat.reduceLeDiff, Nat.reduceLT, Nat.reduceAdd, Nat.reduceSub, Nat.reduceMul, e10, e01, en1, en2, en3, en4, en6, rq1, rq2, rq3, rq4, rq6, rm1, rm2, rm3, rm4, rm6, fz0, fz1, X5_bound_e, X5_isIn_e, Nat.lt_irrefl, Nat.le_refl, Nat.not_lt_zero, Nat.zero_le, n9a, n9b, n9c, n9d, n9e, n9f, n9g, h1, su_hs, gu_gu, e4, or0, ↓reduceIte]
    · obtain ⟨x, G, rfl, hSG⟩ := hs1
      refine ⟨_, ⟨G, rfl, hSG⟩, fun nx => ?_⟩
      simp (disch := omega) only [gi_nI, tn_nI, hs_1, hs_2, hs_3, hs_4, hs_5, hs_6, hs_7, hs_s, hs_m, hs_h, hs_t, lit_nI, nI_add, nI_mul, nI_eq, nI_leI, nI_ltI, nm_j, bd_j, Nat.one_ne_zero, Nat.zero_ne_one, Nat.reduceEqDiff, Nat.reduceLeDiff, Nat.reduceLT, Nat.reduceAdd, Nat.reduceSub, Nat.reduceMul, e10, e01, en1, en2, en3, en4, en6, rq1, rq2, rq3, rq4, rq6, rm1, rm2, rm3, rm4, rm6, fz0, fz1, X5_bound_e, X5_isIn_e, Nat.lt_irrefl, Nat.le_refl, Nat.not_lt_zero, Nat.zero_le, n9a, n9b, n9c, n9d, n9e, n9f, n9g, su_hs, gu_gu, gu_same, ↓reduceIte]
  obtain ⟨_, a1, d, rfl, a2⟩ := c0
  obtain ⟨_, a3, G', rfl, a4⟩ := c5
  refine ⟨_, d, G', a1, ?_, a2, a4⟩
  unfold f_X5_whatIs
  simp (disch := omega) only [gi_nI, tn_nI, hs_1, hs_2, hs_3, hs_4, hs_5, hs_6, hs_7, hs_s, hs_m, hs_h, hs_t, lit_nI, nI_add, nI_mul, nI_eq, nI_leI, nI_ltI, nm_j, bd_j, Nat.one_ne_zero, Nat.zero_ne_one, Nat.reduceEqDiff, Nat.reduceLeDiff, Nat.reduceLT, Nat.reduceAdd, Nat.reduceSub, Nat.reduceMul, e10, e01, en1, en2, en3, en4, en6, rq1, rq2, rq3, rq4, rq6, rm1, rm2, rm3, rm4, rm6, fz0, fz1, X5_bound_e, X5_isIn_e, Nat.lt_irrefl, Nat.le_refl, Nat.not_lt_zero, Nat.zero_le, n9a, n9b, n9c, n9d, n9e, n9f, n9g, e2, a3, ↓reduceIte]
theorem wi_fig {c ct kc : G2} {Gn Gt GM k g w z q : St} {m L : Nat} (hG : Gd c) (hZ : Zc ct) (hS : Sx kc g w q GM) (hm : m < c 16 1) (hw : w 1 0 = nI L) (hL : L ≤ 16) : ∃ r d G', f_X4_whatIs (hs c Gn) (hs ct Gt) k g w z q (nI m) (nI 1) = some (r, hs d Gt, q) ∧ f_X5_whatIs (hs c GM) (nI m) (nI 1) = some (r, hs c G') ∧ Zc d ∧ Sx kc g w q G' := by
  have hI := hG.1
  have hN := hI.2.2.1
  have e1 := X0_hasMan (G := Gn) hI (show m < 2147483648 by omega)
  have e2 := X5_isMan (G := GM) hI (show m < 2147483648 by omega)
  rw [if_pos hm] at e1 e2
  have hg : ∀ i, i < 10 → Gd (gu c 5 m i) := fun i hi => Gd_gu hG (Or.inr (Or.inl rfl)) (show i ≤ 9 by omega) (vd7 (by decide) (by decide) (by omega))
  obtain ⟨P, hP⟩ := dec_ex (fun i => can (gu c 5 m i) m ∧ so (tel (gu c 5 m i) m) (w 0) L)
  have c0 : ∃ r, f_X4_whatIs (hs c Gn) (hs ct Gt) k g w z q (nI m) (nI 1) = some r ∧ ∃ d, r = (btN (fun i => P i = true) 10, hs d Gt, q) ∧ Zc d := by
    unfold f_X4_whatIs
    rw [e1, bd_j, if_neg (show ¬ nI 1 = 0 by decide +kernel)]
    simp only [lit_nI, e10, ↓reduceIte]
    refine lp_r (fun j s => ∃ d, s = (btN (fun i => P i = true) j, nI j, hs d Gt) ∧ Zc d) _ 10 ⟨ct, rfl, hZ⟩ (fun j hj s hs1 => Or.inl ?_) (fun s hs1 => ?_) (by omega)
    · obtain ⟨d, rfl, hd⟩ := hs1
      have h1 : ¬ 10 ≤ j := by omega
      have e3 := X0_copyFrom (G := Gn) (Gt := Gt) hG.2.1 hd
      have hz := (Hd_tl (m := m) (hg j hj).hd).2.1
      rcases X4_rt (n := hs c Gn) (Gt := Gt) (k := k) (g := g) (z := z) (q := q) (m := m) (hg j hj).hd hw hL (by omega) with ⟨hy, e4⟩ | ⟨hy, e4⟩
      · rw [btN_t (P := fun i => P i = true) ((hP j).mpr hy)]
        refine ⟨_, ⟨_, rfl, hz⟩, fun nx => ?_⟩
        simp (disch := omega) only [gi_nI, tn_nI, hs_1, hs_2, hs_3, hs_4, hs_5, hs_6, hs_7, hs_s, hs_m, hs_h, hs_t, lit_nI, nI_add, nI_mul, nI_eq, nI_leI, nI_ltI, nm_j, bd_j, Nat.one_ne_zero, Nat.zero_ne_one, Nat.reduceEqDiff, Nat.reduceLeDiff, Nat.reduceLT, Nat.reduceAdd, Nat.reduceSub, Nat.reduceMul, e10, e01, en1, en2, en3, en4, en6, rq1, rq2, rq3, rq4, rq6, rm1, rm2, rm3, rm4, rm6, fz0, fz1, X5_bound_e, X5_isIn_e, Nat.lt_irrefl, Nat.le_refl, Nat.not_lt_zero, Nat.zero_le, n9a, n9b, n9c, n9d, n9e, n9f, n9g, h1, e3, su_hs, e4, bt_e, ↓reduceIte]
      · rw [btN_f (P := fun i => P i = true) (fun y => hy ((hP j).mp y))]
        refine ⟨_, ⟨_, rfl, hz⟩, fun nx => ?_⟩
        simp (disch := omega) only [gi_nI, tn_nI, hs_1, hs_2, hs_3, hs_4, hs_5, hs_6, hs_7, hs_s, hs_m, hs_h, hs_t, lit_nI, nI_add, nI_mul, nI_eq, nI_leI, nI_ltI, nm_j, bd_j, Nat.one_ne_zero, Nat.zero_ne_one, Nat.reduceEqDiff, Nat.reduceLeDiff, Nat.reduceLT, Nat.reduceAdd, Nat.reduceSub, Nat.reduceMul, e10, e01, en1, en2, en3, en4, en6, rq1, rq2, rq3, rq4, rq6, rm1, rm2, rm3, rm4, rm6, fz0, fz1, X5_bound_e, X5_isIn_e, Nat.lt_irrefl, Nat.le_refl, Nat.not_lt_zero, Nat.zero_le, n9a, n9b, n9c, n9d, n9e, n9f, n9g, h1, e3, su_hs, e4, ↓reduceIte]
    · obtain ⟨d, rfl, hd⟩ := hs1
      refine ⟨_, ⟨d, rfl, hd⟩, fun nx => ?_⟩
      simp (disch := omega) only [gi_nI, tn_nI, hs_1, hs_2, hs_3, hs_4, hs_5, hs_6, hs_7, hs_s, hs_m, hs_h, hs_t, lit_nI, nI_add, nI_mul, nI_eq, nI_leI, nI_ltI, nm_j, bd_j, Nat.one_ne_zero, Nat.zero_ne_one, Nat.reduceEqDiff, Nat.reduceLeDiff, Nat.reduceLT, Nat.reduceAdd, Nat.reduceSub, Nat.reduceMul, e10, e01, en1, en2, en3, en4, en6, rq1, rq2, rq3, rq4, rq6, rm1, rm2, rm3, rm4, rm6, fz0, fz1, X5_bound_e, X5_isIn_e, Nat.lt_irrefl, Nat.le_refl, Nat.not_lt_zero, Nat.zero_le, n9a, n9b, n9c, n9d, n9e, n9f, n9g, ↓reduceIte]
  have c5 : ∃ r, f_X5_bitsFor_a6 (hs c GM) (nI m) (nI 10) = some r ∧ ∃ G', r = (btN (fun i => P i = true) 10, hs c G') ∧ Sx kc g w q G' := by
    unfold f_X5_bitsFor_a6
    simp (disch := omega) only [gi_nI, tn_nI, hs_1, hs_2, hs_3, hs_4, hs_5, hs_6, hs_7, hs_s, hs_m, hs_h, hs_t, lit_nI, nI_add, nI_mul, nI_eq, nI_leI, nI_ltI, nm_j, bd_j, Nat.one_ne_zero, Nat.zero_ne_one, Nat.reduceEqDiff, Nat.reduceLeDiff, Nat.reduceLT, Nat.reduceAdd, Nat.reduceSub, Nat.reduceMul, e10, e01, en1, en2, en3, en4, en6, rq1, rq2, rq3, rq4, rq6, rm1, rm2, rm3, rm4, rm6, fz0, fz1, X5_bound_e, X5_isIn_e, Nat.lt_irrefl, Nat.le_refl, Nat.not_lt_zero, Nat.zero_le, n9a, n9b, n9c, n9d, n9e, n9f, n9g, ↓reduceIte]
    refine lp_r (fun j s => ∃ x G', s = (btN (fun i => P i = true) j, nI j, hs (gu c 5 m x) G') ∧ Sx kc g w q G') _ 10 ⟨c 5 m, GM, by rw [gu_same]; rfl, hS⟩ (fun j hj s hs1 => Or.inl ?_) (fun s hs1 => ?_) (by omega)
    · obtain ⟨x, G, rfl, hSG⟩ := hs1
      have h1 : ¬ 10 ≤ j := by omega
      obtain ⟨G', s1, ⟨hy, e4⟩ | ⟨hy, e4⟩⟩ := X5_sb (m := m) (hg j hj) hSG hw hL (by omega)
      · rw [btN_t (P := fun i => P i = true) ((hP j).mpr hy)]
        refine ⟨_, ⟨j, G', rfl, s1⟩, fun nx => ?_⟩
        simp (disch := omega) only [gi_nI, tn_nI, hs_1, hs_2, hs_3, hs_4, hs_5, hs_6, hs_7, hs_s, hs_m, hs_h, hs_t, lit_nI, nI_add, nI_mul, nI_eq, nI_leI, nI_ltI, nm_j, bd_j, Nat.one_ne_zero, Nat.zero_ne_one, Nat.reduceEqDiff, Nat.reduceLeDiff, Nat.reduceLT, Nat.reduceAdd, Nat.reduceSub, Nat.reduceMul, e10, e01, en1, en2, en3, en4, en6, rq1, rq2, rq3, rq4, rq6, rm1, rm2, rm3, rm4, rm6, fz0, fz1, X5_bound_e, X5_isIn_e, Nat.lt_irrefl, Nat.le_refl, Nat.not_lt_zero, Nat.zero_le, n9a, n9b, n9c, n9d, n9e, n9f, n9g, h1, su_hs, gu_gu, e4, bt_e, ↓reduceIte]
      · rw [btN_f (P := fun i => P i = true) (fun y => hy ((hP j).mp y))]
        refine ⟨_, ⟨j, G', rfl, s1⟩, fun nx => ?_⟩
        simp (disch := omega) only [gi_nI, tn_nI, hs_1, hs_2, hs_3, hs_4, hs_5, hs_6, hs_7, hs_s, hs_m, hs_h, hs_t, lit_nI, nI_add, nI_mul, nI_eq, nI_leI, nI_ltI, nm_j, bd_j, Nat.one_ne_zero, Nat.zero_ne_one, Nat.reduceEqDiff, Nat.reduceLeDiff, Nat.reduceLT, Nat.reduceAdd, Nat.reduceSub, Nat.reduceMul, e10, e01, en1, en2, en3, en4, en6, rq1, rq2, rq3, rq4, rq6, rm1, rm2, rm3, rm4, rm6, fz0, fz1, X5_bound_e, X5_isIn_e, Nat.lt_irrefl, Nat.le_refl, Nat.not_lt_zero, Nat.zero_le, n9a, n9b, n9c, n9d, n9e, n9f, n9g, h1, su_hs, gu_gu, e4, or0, ↓reduceIte]
    · obtain ⟨x, G, rfl, hSG⟩ := hs1
      refine ⟨_, ⟨G, rfl, hSG⟩, fun nx => ?_⟩
      simp (disch := omega) only [gi_nI, tn_nI, hs_1, hs_2, hs_3, hs_4, hs_5, hs_6, hs_7, hs_s, hs_m, hs_h, hs_t, lit_nI, nI_add, nI_mul, nI_eq, nI_leI, nI_ltI, nm_j, bd_j, Nat.one_ne_zero, Nat.zero_ne_one, Nat.reduceEqDiff, Nat.reduceLeDiff, Nat.reduceLT, Nat.reduceAdd, Nat.reduceSub, Nat.reduceMul, e10, e01, en1, en2, en3, en4, en6, rq1, rq2, rq3, rq4, rq6, rm1, rm2, rm3, rm4, rm6, fz0, fz1, X5_bound_e, X5_isIn_e, Nat.lt_irrefl, Nat.le_refl, Nat.not_lt_zero, Nat.zero_le, n9a, n9b, n9c, n9d, n9e, n9f, n9g, su_hs, gu_gu, gu_same, ↓reduceIte]
  obtain ⟨_, a1, d, rfl, a2⟩ := c0
  obtain ⟨_, a3, G', rfl, a4⟩ := c5
  refine ⟨_, d, G', a1, ?_, a2, a4⟩
  unfold f_X5_whatIs
  simp (disch := omega) only [gi_nI, tn_nI, hs_1, hs_2, hs_3, hs_4, hs_5, hs_6, hs_7, hs_s, hs_m, hs_h, hs_t, lit_nI, nI_add, nI_mul, nI_eq, nI_leI, nI_ltI, nm_j, bd_j, Nat.one_ne_zero, Nat.zero_ne_one, Nat.reduceEqDiff, Nat.reduceLeDiff, Nat.reduceLT, Nat.reduceAdd, Nat.reduceSub, Nat.reduceMul, e10, e01, en1, en2, en3, en4, en6, rq1, rq2, rq3, rq4, rq6, rm1, rm2, rm3, rm4, rm6, fz0, fz1, X5_bound_e, X5_isIn_e, Nat.lt_irrefl, Nat.le_refl, Nat.not_lt_zero, Nat.zero_le, n9a, n9b, n9c, n9d, n9e, n9f, n9g, e2, a3, ↓reduceIte]
theorem r_whatIs {n t k g w z q M : St} (hR : R n t k g w z q M) (p1 p2 : Int32) : ∃ r t' q' M', f_X4_whatIs n t k g w z q p1 p2 = some (r, t', q') ∧ f_X5_whatIs M p1 p2 = some (r, M') ∧ R n t' k g w z q' M' := by
  have hQ := hR
  obtain ⟨c, ct, kc, Gn, Gt, Gk, GM, rfl, rfl, rfl, rfl, hG, hZ, hK, hS⟩ := hR
  have hI := hG.1
  have hN := hI.2.2.1
  have s7 := hS.2.2.2.2.2.2.1
  obtain ⟨L, hL, s8⟩ := hS.2.2.2.2.2.2.2.1
  have hw : w 1 0 = nI L := by rw [s7, s8]
  rcases man_or hI p1 with ⟨m, hm, rfl⟩ | hn
  · rcases wh01 p2 with rfl | rfl | ⟨w1, w2, w3⟩
    · obtain ⟨r, d, G', a1, a2, a3, a4⟩ := wi_kind (Gn := Gn) (Gt := Gt) (k := hs kc Gk) (z := z) hG hZ hS hm hw hL
      exact ⟨r, _, q, _, a1, a2, c, d, kc, Gn, Gt, Gk, G', rfl, rfl, rfl, rfl, hG, a3, hK, a4⟩
    · obtain ⟨r, d, G', a1, a2, a3, a4⟩ := wi_fig (Gn := Gn) (Gt := Gt) (k := hs kc Gk) (z := z) hG hZ hS hm hw hL
      exact ⟨r, _, q, _, a1, a2, c, d, kc, Gn, Gt, Gk, G', rfl, rfl, rfl, rfl, hG, a3, hK, a4⟩
    · have e1 := X0_hasMan (G := Gn) hI (show m < 2147483648 by omega)
      have e2 := X5_isMan (G := GM) hI (show m < 2147483648 by omega)
      rw [if_pos hm] at e1 e2
      refine ⟨-nI 2, _, rf q 2, rf (hs c GM) 2, ?_, ?_, hQ.ref 2⟩
      · unfold f_X4_whatIs
        rw [e1, bd_j, if_neg (show ¬ nI 1 = 0 by decide +kernel), if_neg (show ¬ p2 = 0 from w1), if_neg (show ¬ p2 = 1 from w2)]
        simp (disch := omega) only [gi_nI, tn_nI, hs_1, hs_2, hs_3, hs_4, hs_5, hs_6, hs_7, hs_s, hs_m, hs_h, hs_t, lit_nI, nI_add, nI_mul, nI_eq, nI_leI, nI_ltI, nm_j, bd_j, Nat.one_ne_zero, Nat.zero_ne_one, Nat.reduceEqDiff, Nat.reduceLeDiff, Nat.reduceLT, Nat.reduceAdd, Nat.reduceSub, Nat.reduceMul, e10, e01, en1, en2, en3, en4, en6, rq1, rq2, rq3, rq4, rq6, rm1, rm2, rm3, rm4, rm6, fz0, fz1, X5_bound_e, X5_isIn_e, Nat.lt_irrefl, Nat.le_refl, Nat.not_lt_zero, Nat.zero_le, n9a, n9b, n9c, n9d, n9e, n9f, n9g, ↓reduceIte]
      · unfold f_X5_whatIs
        simp (disch := omega) only [gi_nI, tn_nI, hs_1, hs_2, hs_3, hs_4, hs_5, hs_6, hs_7, hs_s, hs_m, hs_h, hs_t, lit_nI, nI_add, nI_mul, nI_eq, nI_leI, nI_ltI, nm_j, bd_j, Nat.one_ne_zero, Nat.zero_ne_one, Nat.reduceEqDiff, Nat.reduceLeDiff, Nat.reduceLT, Nat.reduceAdd, Nat.reduceSub, Nat.reduceMul, e10, e01, en1, en2, en3, en4, en6, rq1, rq2, rq3, rq4, rq6, rm1, rm2, rm3, rm4, rm6, fz0, fz1, X5_bound_e, X5_isIn_e, Nat.lt_irrefl, Nat.le_refl, Nat.not_lt_zero, Nat.zero_le, n9a, n9b, n9c, n9d, n9e, n9f, n9g, e2, w3, ↓reduceIte]
  · obtain ⟨e1, -⟩ := hn Gn
    obtain ⟨-, e2⟩ := hn GM
    refine ⟨-nI 1, _, rf q 1, rf (hs c GM) 1, ?_, ?_, hQ.ref 1⟩
    · unfold f_X4_whatIs
      rw [e1, bd_j, if_pos (show nI 0 = 0 from rfl)]
      simp (disch := omega) only [gi_nI, tn_nI, hs_1, hs_2, hs_3, hs_4, hs_5, hs_6, hs_7, hs_s, hs_m, hs_h, hs_t, lit_nI, nI_add, nI_mul, nI_eq, nI_leI, nI_ltI, nm_j, bd_j, Nat.one_ne_zero, Nat.zero_ne_one, Nat.reduceEqDiff, Nat.reduceLeDiff, Nat.reduceLT, Nat.reduceAdd, Nat.reduceSub, Nat.reduceMul, e10, e01, en1, en2, en3, en4, en6, rq1, rq2, rq3, rq4, rq6, rm1, rm2, rm3, rm4, rm6, fz0, fz1, X5_bound_e, X5_isIn_e, Nat.lt_irrefl, Nat.le_refl, Nat.not_lt_zero, Nat.zero_le, n9a, n9b, n9c, n9d, n9e, n9f, n9g, ↓reduceIte]
    · unfold f_X5_whatIs
      simp (disch := omega) only [gi_nI, tn_nI, hs_1, hs_2, hs_3, hs_4, hs_5, hs_6, hs_7, hs_s, hs_m, hs_h, hs_t, lit_nI, nI_add, nI_mul, nI_eq, nI_leI, nI_ltI, nm_j, bd_j, Nat.one_ne_zero, Nat.zero_ne_one, Nat.reduceEqDiff, Nat.reduceLeDiff, Nat.reduceLT, Nat.reduceAdd, Nat.reduceSub, Nat.reduceMul, e10, e01, en1, en2, en3, en4, en6, rq1, rq2, rq3, rq4, rq6, rm1, rm2, rm3, rm4, rm6, fz0, fz1, X5_bound_e, X5_isIn_e, Nat.lt_irrefl, Nat.le_refl, Nat.not_lt_zero, Nat.zero_le, n9a, n9b, n9c, n9d, n9e, n9f, n9g, e2, ↓reduceIte]
