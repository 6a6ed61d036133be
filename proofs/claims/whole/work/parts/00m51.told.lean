/-! WHO TOLD, WHAT ONE IS -/
def lt (d : G2) (s : Nat) : Int32 := if d 3 s = 0 then nI (d 2 s) else nI 98
def so (d : G2) (W : Nat → Int32) (L : Nat) : Prop := ∀ s, s < L → s < d 16 0 ∧ lt d s = W s
theorem fst_all {P : Nat → Prop} [DecidablePred P] : ∀ d j, (∀ s, j ≤ s → s < j + d → P s) → fst P d j = -nI 9
  | 0, _, _ => rfl
  | d + 1, j, h => by
    rw [fst_t (h j (Nat.le_refl j) (by omega))]
    exact fst_all d (j + 1) (fun s h1 h2 => h s (by omega) (by omega))
theorem fst_some {P : Nat → Prop} [DecidablePred P] : ∀ d j, (¬ ∀ s, j ≤ s → s < j + d → P s) → ∃ i, i < j + d ∧ fst P d j = nI i
  | 0, j, h => absurd (fun s h1 h2 => by omega) h
  | d + 1, j, h => by
    by_cases hP : P j
    · rw [fst_t hP]
      obtain ⟨i, h1, h2⟩ := fst_some (P := P) d (j + 1) (fun z => h (fun s h1 h2 => by
        by_cases hs0 : s = j
        · rw [hs0]; exact hP
        · exact z s (by omega) (by omega)))
      exact ⟨i, by omega, h2⟩
    · rw [fst_f hP]
      exact ⟨j, by omega, rfl⟩
theorem X3_lt {d : G2} {G : St} {s : Nat} (hI : Iv d) (h : s < 5) : f_X3_looseTold (hs d G) (nI s) = some (lt d s) := by
  have e := X0_isIn (G := G) hI h
  unfold f_X3_looseTold lt
  by_cases h3 : d 3 s = 0
  · rw [if_pos h3] at e
    rw [if_pos h3]
    simp (disch := omega) only [gi_nI, tn_nI, hs_1, hs_2, hs_3, hs_4, hs_5, hs_6, hs_7, hs_s, hs_m, hs_h, hs_t, lit_nI, nI_add, nI_mul, nI_eq, nI_leI, nI_ltI, nm_j, bd_j, Nat.one_ne_zero, Nat.zero_ne_one, Nat.reduceEqDiff, Nat.reduceLeDiff, Nat.reduceLT, Nat.reduceAdd, Nat.reduceSub, Nat.reduceMul, e10, e01, en1, en2, en3, en4, en6, rq1, rq2, rq3, rq4, rq6, rm1, rm2, rm3, rm4, rm6, fz0, fz1, X5_bound_e, X5_isIn_e, Nat.lt_irrefl, Nat.le_refl, Nat.not_lt_zero, Nat.zero_le, n9a, n9b, n9c, n9d, n9e, n9f, n9g, e, ↓reduceIte]
  · rw [if_neg h3] at e
    rw [if_neg h3]
    simp (disch := omega) only [gi_nI, tn_nI, hs_1, hs_2, hs_3, hs_4, hs_5, hs_6, hs_7, hs_s, hs_m, hs_h, hs_t, lit_nI, nI_add, nI_mul, nI_eq, nI_leI, nI_ltI, nm_j, bd_j, Nat.one_ne_zero, Nat.zero_ne_one, Nat.reduceEqDiff, Nat.reduceLeDiff, Nat.reduceLT, Nat.reduceAdd, Nat.reduceSub, Nat.reduceMul, e10, e01, en1, en2, en3, en4, en6, rq1, rq2, rq3, rq4, rq6, rm1, rm2, rm3, rm4, rm6, fz0, fz1, X5_bound_e, X5_isIn_e, Nat.lt_irrefl, Nat.le_refl, Nat.not_lt_zero, Nat.zero_le, n9a, n9b, n9c, n9d, n9e, n9f, n9g, e, ↓reduceIte]
theorem X3_loose {c : G2} {G w : St} {L : Nat} (hI : Iv c) (hw : w 1 0 = nI L) (hL : L ≤ 16) : f_X3_firstNotLooseAsIn w (hs c G) = some (fst (fun s => s < c 16 0 ∧ lt c s = w 0 s) L 0) := by
  have hS := hI.2.1
  unfold f_X3_firstNotLooseAsIn
  refine lp_e (S := fun j => nI j) (g := fun j => some (fst (fun s => s < c 16 0 ∧ lt c s = w 0 s) (L - j) j)) L rfl (fun j hj nx h => ?_) (fun nx => ?_) (by omega)
  · have ef : fst (fun s => s < c 16 0 ∧ lt c s = w 0 s) (L - j) j = if j < c 16 0 ∧ lt c j = w 0 j then fst (fun s => s < c 16 0 ∧ lt c s = w 0 s) (L - (j + 1)) (j + 1) else nI j := by
      rw [show L - j = (L - (j + 1)) + 1 by omega]; rfl
    have h1 : ¬ L ≤ j := by omega
    rw [ef]
    by_cases hc : j < c 16 0
    · have e1 := X0_hasShip (G := G) hI (show j < 2147483648 by omega)
      rw [if_pos hc] at e1
      have e2 := X3_lt (G := G) hI (show j < 5 by omega)
      simp (disch := omega) only [gi_nI, tn_nI, hs_1, hs_2, hs_3, hs_4, hs_5, hs_6, hs_7, hs_s, hs_m, hs_h, hs_t, lit_nI, nI_add, nI_mul, nI_eq, nI_leI, nI_ltI, nm_j, bd_j, Nat.one_ne_zero, Nat.zero_ne_one, Nat.reduceEqDiff, Nat.reduceLeDiff, Nat.reduceLT, Nat.reduceAdd, Nat.reduceSub, Nat.reduceMul, e10, e01, en1, en2, en3, en4, en6, rq1, rq2, rq3, rq4, rq6, rm1, rm2, rm3, rm4, rm6, fz0, fz1, X5_bound_e, X5_isIn_e, Nat.lt_irrefl, Nat.le_refl, Nat.not_lt_zero, Nat.zero_le, n9a, n9b, n9c, n9d, n9e, n9f, n9g, hw, h1, e1, e2, ↓reduceIte]
      by_cases h4 : lt c j = w 0 j
      · simp only [h4, hc, and_self, ↓reduceIte]
        exact h
      · simp only [h4, and_false, ↓reduceIte]
    · have e1 := X0_hasShip (G := G) hI (show j < 2147483648 by omega)
      rw [if_neg hc] at e1
      simp (disch := omega) only [gi_nI, tn_nI, hs_1, hs_2, hs_3, hs_4, hs_5, hs_6, hs_7, hs_s, hs_m, hs_h, hs_t, lit_nI, nI_add, nI_mul, nI_eq, nI_leI, nI_ltI, nm_j, bd_j, Nat.one_ne_zero, Nat.zero_ne_one, Nat.reduceEqDiff, Nat.reduceLeDiff, Nat.reduceLT, Nat.reduceAdd, Nat.reduceSub, Nat.reduceMul, e10, e01, en1, en2, en3, en4, en6, rq1, rq2, rq3, rq4, rq6, rm1, rm2, rm3, rm4, rm6, fz0, fz1, X5_bound_e, X5_isIn_e, Nat.lt_irrefl, Nat.le_refl, Nat.not_lt_zero, Nat.zero_le, n9a, n9b, n9c, n9d, n9e, n9f, n9g, hw, h1, e1, ↓reduceIte]
      simp only [hc, false_and, ↓reduceIte]
  · simp (disch := omega) only [gi_nI, tn_nI, hs_1, hs_2, hs_3, hs_4, hs_5, hs_6, hs_7, hs_s, hs_m, hs_h, hs_t, lit_nI, nI_add, nI_mul, nI_eq, nI_leI, nI_ltI, nm_j, bd_j, Nat.one_ne_zero, Nat.zero_ne_one, Nat.reduceEqDiff, Nat.reduceLeDiff, Nat.reduceLT, Nat.reduceAdd, Nat.reduceSub, Nat.reduceMul, e10, e01, en1, en2, en3, en4, en6, rq1, rq2, rq3, rq4, rq6, rm1, rm2, rm3, rm4, rm6, fz0, fz1, X5_bound_e, X5_isIn_e, Nat.lt_irrefl, Nat.le_refl, Nat.not_lt_zero, Nat.zero_le, n9a, n9b, n9c, n9d, n9e, n9f, n9g, hw, ↓reduceIte]
    rw [Nat.sub_self]; rfl
theorem X4_rt {d : G2} {n Gt k g w z q : St} {m L : Nat} (hH : Hd d) (hw : w 1 0 = nI L) (hL : L ≤ 16) (hm : m < 2147483648) : ((can d m ∧ so (tel d m) (w 0) L) ∧ f_X4_rowTellsWordOf n (hs d Gt) k g w z q (nI m) = some (nI 1, hs (tl d m) Gt)) ∨ (¬ (can d m ∧ so (tel d m) (w 0) L) ∧ f_X4_rowTellsWordOf n (hs d Gt) k g w z q (nI m) = some (nI 0, hs (tl d m) Gt)) := by
  have hI := hH.1
  unfold f_X4_rowTellsWordOf
  rcases tell_or hI hm with ⟨hx, ht⟩ | ⟨hx, ht⟩
  · have e1 := (ht Gt).1
    have e2 := X0_word (G := Gt) hI hx.1 hx.2.1 hx.2.2
    have e3 := X3_loose (G := Gt) (w := w) (Iv_tel (m := m) hI) hw hL
    have et : tl d m = tel d m := by unfold tl; rw [if_pos hx]
    rw [et]
    by_cases hso : so (tel d m) (w 0) L
    · left
      rw [fst_all L 0 (fun s _ h2 => hso s (by omega))] at e3
      refine ⟨⟨hx, hso⟩, ?_⟩
      simp (disch := omega) only [gi_nI, tn_nI, hs_1, hs_2, hs_3, hs_4, hs_5, hs_6, hs_7, hs_s, hs_m, hs_h, hs_t, lit_nI, nI_add, nI_mul, nI_eq, nI_leI, nI_ltI, nm_j, bd_j, Nat.one_ne_zero, Nat.zero_ne_one, Nat.reduceEqDiff, Nat.reduceLeDiff, Nat.reduceLT, Nat.reduceAdd, Nat.reduceSub, Nat.reduceMul, e10, e01, en1, en2, en3, en4, en6, rq1, rq2, rq3, rq4, rq6, rm1, rm2, rm3, rm4, rm6, fz0, fz1, X5_bound_e, X5_isIn_e, Nat.lt_irrefl, Nat.le_refl, Nat.not_lt_zero, Nat.zero_le, n9a, n9b, n9c, n9d, n9e, n9f, n9g, e1, e2, e3, fzp1, ↓reduceIte]
    · right
      obtain ⟨i, hi, e⟩ := fst_some (P := fun s => s < tel d m 16 0 ∧ lt (tel d m) s = w 0 s) L 0 (fun z => hso (fun s h2 => z s (by omega) (by omega)))
      rw [e] at e3
      refine ⟨fun z => hso z.2, ?_⟩
      simp (disch := omega) only [gi_nI, tn_nI, hs_1, hs_2, hs_3, hs_4, hs_5, hs_6, hs_7, hs_s, hs_m, hs_h, hs_t, lit_nI, nI_add, nI_mul, nI_eq, nI_leI, nI_ltI, nm_j, bd_j, Nat.one_ne_zero, Nat.zero_ne_one, Nat.reduceEqDiff, Nat.reduceLeDiff, Nat.reduceLT, Nat.reduceAdd, Nat.reduceSub, Nat.reduceMul, e10, e01, en1, en2, en3, en4, en6, rq1, rq2, rq3, rq4, rq6, rm1, rm2, rm3, rm4, rm6, fz0, fz1, X5_bound_e, X5_isIn_e, Nat.lt_irrefl, Nat.le_refl, Nat.not_lt_zero, Nat.zero_le, n9a, n9b, n9c, n9d, n9e, n9f, n9g, e1, e2, e3, fzp0, ↓reduceIte]
  · right
    have e1 := (ht Gt).1
    have et : tl d m = d := by unfold tl; rw [if_neg hx]
    rw [et]
    refine ⟨fun z => hx z.1, ?_⟩
    simp (disch := omega) only [gi_nI, tn_nI, hs_1, hs_2, hs_3, hs_4, hs_5, hs_6, hs_7, hs_s, hs_m, hs_h, hs_t, lit_nI, nI_add, nI_mul, nI_eq, nI_leI, nI_ltI, nm_j, bd_j, Nat.one_ne_zero, Nat.zero_ne_one, Nat.reduceEqDiff, Nat.reduceLeDiff, Nat.reduceLT, Nat.reduceAdd, Nat.reduceSub, Nat.reduceMul, e10, e01, en1, en2, en3, en4, en6, rq1, rq2, rq3, rq4, rq6, rm1, rm2, rm3, rm4, rm6, fz0, fz1, X5_bound_e, X5_isIn_e, Nat.lt_irrefl, Nat.le_refl, Nat.not_lt_zero, Nat.zero_le, n9a, n9b, n9c, n9d, n9e, n9f, n9g, e1, fzp0, ↓reduceIte]
theorem X5_sb {c kc : G2} {GM g w q : St} {m L : Nat} (hG : Gd c) (hS : Sx kc g w q GM) (hw : w 1 0 = nI L) (hL : L ≤ 16) (hm : m < 2147483648) : ∃ G', Sx kc g w q G' ∧ (((can c m ∧ so (tel c m) (w 0) L) ∧ f_X5_isSoBy (hs c GM) (nI m) = some (nI 1, hs c G')) ∨ (¬ (can c m ∧ so (tel c m) (w 0) L) ∧ f_X5_isSoBy (hs c GM) (nI m) = some (nI 0, hs c G'))) := by
  have hI := hG.1
  have hN := hI.2.2.1
  unfold f_X5_isSoBy
  rcases tell_or hI hm with ⟨hx, ht⟩ | ⟨hx, ht⟩
  · have e1 := (ht GM).2
    obtain ⟨GT, t1, t2, t3⟩ := TF hS hG.2.1
    have e2 := X5_tellsOne (G := GT) hI hx.1 hx.2.1
    have hTl := Hd_tel hG.hd hx.1
    have hN5 := hTl.1.2.1
    obtain ⟨G', t4, t5⟩ := t3 (tel c m) hTl.2.1 GT rfl t2
    have r10 : hs (tel c m) GT 16 10 = nI L := by
      rw [hs_16 (by omega), ← t2.2.2.2.2.2.2.1, hw]
    have r15 : ∀ j, hs (tel c m) GT 15 j = w 0 j := fun j => by
      rw [hs_o (by decide) (by decide), ← t2.2.2.2.2.2.1]
    refine ⟨G', t5, ?_⟩
    by_cases hLs : tel c m 16 0 < L
    · right
      refine ⟨fun z => ?_, ?_⟩
      · have := (z.2 (tel c m 16 0) hLs).1
        omega
      · have h1 : ¬ L ≤ 0 := by omega
        simp (disch := omega) only [gi_nI, tn_nI, hs_1, hs_2, hs_3, hs_4, hs_5, hs_6, hs_7, hs_s, hs_m, hs_h, hs_t, lit_nI, nI_add, nI_mul, nI_eq, nI_leI, nI_ltI, nm_j, bd_j, Nat.one_ne_zero, Nat.zero_ne_one, Nat.reduceEqDiff, Nat.reduceLeDiff, Nat.reduceLT, Nat.reduceAdd, Nat.reduceSub, Nat.reduceMul, e10, e01, en1, en2, en3, en4, en6, rq1, rq2, rq3, rq4, rq6, rm1, rm2, rm3, rm4, rm6, fz0, fz1, X5_bound_e, X5_isIn_e, Nat.lt_irrefl, Nat.le_refl, Nat.not_lt_zero, Nat.zero_le, n9a, n9b, n9c, n9d, n9e, n9f, n9g, e1, t1, e2, r10, hLs, ↓reduceIte]
        rw [lp_u0]
        simp (disch := omega) only [gi_nI, tn_nI, hs_1, hs_2, hs_3, hs_4, hs_5, hs_6, hs_7, hs_s, hs_m, hs_h, hs_t, lit_nI, nI_add, nI_mul, nI_eq, nI_leI, nI_ltI, nm_j, bd_j, Nat.one_ne_zero, Nat.zero_ne_one, Nat.reduceEqDiff, Nat.reduceLeDiff, Nat.reduceLT, Nat.reduceAdd, Nat.reduceSub, Nat.reduceMul, e10, e01, en1, en2, en3, en4, en6, rq1, rq2, rq3, rq4, rq6, rm1, rm2, rm3, rm4, rm6, fz0, fz1, X5_bound_e, X5_isIn_e, Nat.lt_irrefl, Nat.le_refl, Nat.not_lt_zero, Nat.zero_le, n9a, n9b, n9c, n9d, n9e, n9f, n9g, h1, t4, fzp0, ↓reduceIte]
    · simp (disch := omega) only [gi_nI, tn_nI, hs_1, hs_2, hs_3, hs_4, hs_5, hs_6, hs_7, hs_s, hs_m, hs_h, hs_t, lit_nI, nI_add, nI_mul, nI_eq, nI_leI, nI_ltI, nm_j, bd_j, Nat.one_ne_zero, Nat.zero_ne_one, Nat.reduceEqDiff, Nat.reduceLeDiff, Nat.reduceLT, Nat.reduceAdd, Nat.reduceSub, Nat.reduceMul, e10, e01, en1, en2, en3, en4, en6, rq1, rq2, rq3, rq4, rq6, rm1, rm2, rm3, rm4, rm6, fz0, fz1, X5_bound_e, X5_isIn_e, Nat.lt_irrefl, Nat.le_refl, Nat.not_lt_zero, Nat.zero_le, n9a, n9b, n9c, n9d, n9e, n9f, n9g, e1, t1, e2, r10, hLs, ↓reduceIte]
      have key : ∀ (x : Option (Int32 × St)), (∃ r, x = some r ∧ ((so (tel c m) (w 0) L ∧ r = (nI 1, hs c G')) ∨ (¬ so (tel c m) (w 0) L ∧ r = (nI 0, hs c G')))) → (((can c m ∧ so (tel c m) (w 0) L) ∧ fzp x = some (nI 1, hs c G')) ∨ (¬ (can c m ∧ so (tel c m) (w 0) L) ∧ fzp x = some (nI 0, hs c G'))) := by
        rintro x ⟨r, rfl, ⟨h1, rfl⟩ | ⟨h1, rfl⟩⟩
        · exact Or.inl ⟨⟨hx, h1⟩, fzp1⟩
        · exact Or.inr ⟨fun z => h1 z.2, fzp0⟩
      apply key
      refine lp_r (fun j s => (s = (nI 1, nI j) ∧ ∀ i, i < j → lt (tel c m) i = w 0 i) ∨ (s = (nI 0, nI j) ∧ ¬ so (tel c m) (w 0) L)) _ L (Or.inl ⟨rfl, fun i hi => absurd hi (Nat.not_lt_zero _)⟩) (fun j hj s hs1 => ?_) (fun s hs1 => ?_) (by omega)
      · have h1 : ¬ L ≤ j := by omega
        rcases hs1 with ⟨rfl, hall⟩ | ⟨rfl, hno⟩
        · left
          have b3 := hTl.1.1 3 j
          have hlt : lt (tel c m) j = if tel c m 3 j = 0 then nI (tel c m 2 j) else nI 98 := rfl
          by_cases h3 : tel c m 3 j = 0
          · rw [if_pos h3] at hlt
            by_cases h4 : nI (tel c m 2 j) = w 0 j
            · refine ⟨(nI 1, nI (j + 1)), Or.inl ⟨rfl, fun i hi => ?_⟩, fun nx => ?_⟩
              · by_cases hij : i = j
                · rw [hij, hlt, h4]
                · exact hall i (by omega)
              · simp (disch := omega) only [gi_nI, tn_nI, hs_1, hs_2, hs_3, hs_4, hs_5, hs_6, hs_7, hs_s, hs_m, hs_h, hs_t, lit_nI, nI_add, nI_mul, nI_eq, nI_leI, nI_ltI, nm_j, bd_j, Nat.one_ne_zero, Nat.zero_ne_one, Nat.reduceEqDiff, Nat.reduceLeDiff, Nat.reduceLT, Nat.reduceAdd, Nat.reduceSub, Nat.reduceMul, e10, e01, en1, en2, en3, en4, en6, rq1, rq2, rq3, rq4, rq6, rm1, rm2, rm3, rm4, rm6, fz0, fz1, X5_bound_e, X5_isIn_e, Nat.lt_irrefl, Nat.le_refl, Nat.not_lt_zero, Nat.zero_le, n9a, n9b, n9c, n9d, n9e, n9f, n9g, h1, h3, r15, h4, ↓reduceIte]
            · refine ⟨(nI 0, nI (j + 1)), Or.inr ⟨rfl, fun z => h4 (by rw [← hlt]; exact (z j hj).2)⟩, fun nx => ?_⟩
              simp (disch := omega) only [gi_nI, tn_nI, hs_1, hs_2, hs_3, hs_4, hs_5, hs_6, hs_7, hs_s, hs_m, hs_h, hs_t, lit_nI, nI_add, nI_mul, nI_eq, nI_leI, nI_ltI, nm_j, bd_j, Nat.one_ne_zero, Nat.zero_ne_one, Nat.reduceEqDiff, Nat.reduceLeDiff, Nat.reduceLT, Nat.reduceAdd, Nat.reduceSub, Nat.reduceMul, e10, e01, en1, en2, en3, en4, en6, rq1, rq2, rq3, rq4, rq6, rm1, rm2, rm3, rm4, rm6, fz0, fz1, X5_bound_e, X5_isIn_e, Nat.lt_irrefl, Nat.le_refl, Nat.not_lt_zero, Nat.zero_le, n9a, n9b, n9c, n9d, n9e, n9f, n9g, h1, h3, r15, h4, ↓reduceIte]
          · rw [if_neg h3] at hlt
            have h5 : ¬ tel c m 3 j ≤ 0 := by omega
            by_cases h4 : nI 98 = w 0 j
            · refine ⟨(nI 1, nI (j + 1)), Or.inl ⟨rfl, fun i hi => ?_⟩, fun nx => ?_⟩
              · by_cases hij : i = j
                · rw [hij, hlt, h4]
                · exact hall i (by omega)
              · simp (disch := omega) only [gi_nI, tn_nI, hs_1, hs_2, hs_3, hs_4, hs_5, hs_6, hs_7, hs_s, hs_m, hs_h, hs_t, lit_nI, nI_add, nI_mul, nI_eq, nI_leI, nI_ltI, nm_j, bd_j, Nat.one_ne_zero, Nat.zero_ne_one, Nat.reduceEqDiff, Nat.reduceLeDiff, Nat.reduceLT, Nat.reduceAdd, Nat.reduceSub, Nat.reduceMul, e10, e01, en1, en2, en3, en4, en6, rq1, rq2, rq3, rq4, rq6, rm1, rm2, rm3, rm4, rm6, fz0, fz1, X5_bound_e, X5_isIn_e, Nat.lt_irrefl, Nat.le_refl, Nat.not_lt_zero, Nat.zero_le, n9a, n9b, n9c, n9d, n9e, n9f, n9g, h1, h5, r15, eq_true h4, ↓reduceIte]
            · refine ⟨(nI 0, nI (j + 1)), Or.inr ⟨rfl, fun z => h4 (by rw [← hlt]; exact (z j hj).2)⟩, fun nx => ?_⟩
              simp (disch := omega) only [gi_nI, tn_nI, hs_1, hs_2, hs_3, hs_4, hs_5, hs_6, hs_7, hs_s, hs_m, hs_h, hs_t, lit_nI, nI_add, nI_mul, nI_eq, nI_leI, nI_ltI, nm_j, bd_j, Nat.one_ne_zero, Nat.zero_ne_one, Nat.reduceEqDiff, Nat.reduceLeDiff, Nat.reduceLT, Nat.reduceAdd, Nat.reduceSub, Nat.reduceMul, e10, e01, en1, en2, en3, en4, en6, rq1, rq2, rq3, rq4, rq6, rm1, rm2, rm3, rm4, rm6, fz0, fz1, X5_bound_e, X5_isIn_e, Nat.lt_irrefl, Nat.le_refl, Nat.not_lt_zero, Nat.zero_le, n9a, n9b, n9c, n9d, n9e, n9f, n9g, h1, h5, r15, h4, ↓reduceIte]
        · right
          refine ⟨_, Or.inr ⟨hno, rfl⟩, fun nx => ?_⟩
          simp (disch := omega) only [gi_nI, tn_nI, hs_1, hs_2, hs_3, hs_4, hs_5, hs_6, hs_7, hs_s, hs_m, hs_h, hs_t, lit_nI, nI_add, nI_mul, nI_eq, nI_leI, nI_ltI, nm_j, bd_j, Nat.one_ne_zero, Nat.zero_ne_one, Nat.reduceEqDiff, Nat.reduceLeDiff, Nat.reduceLT, Nat.reduceAdd, Nat.reduceSub, Nat.reduceMul, e10, e01, en1, en2, en3, en4, en6, rq1, rq2, rq3, rq4, rq6, rm1, rm2, rm3, rm4, rm6, fz0, fz1, X5_bound_e, X5_isIn_e, Nat.lt_irrefl, Nat.le_refl, Nat.not_lt_zero, Nat.zero_le, n9a, n9b, n9c, n9d, n9e, n9f, n9g, h1, t4, ↓reduceIte]
      · rcases hs1 with ⟨rfl, hall⟩ | ⟨rfl, hno⟩
        · refine ⟨_, Or.inl ⟨fun s hs2 => ⟨by omega, hall s hs2⟩, rfl⟩, fun nx => ?_⟩
          simp (disch := omega) only [gi_nI, tn_nI, hs_1, hs_2, hs_3, hs_4, hs_5, hs_6, hs_7, hs_s, hs_m, hs_h, hs_t, lit_nI, nI_add, nI_mul, nI_eq, nI_leI, nI_ltI, nm_j, bd_j, Nat.one_ne_zero, Nat.zero_ne_one, Nat.reduceEqDiff, Nat.reduceLeDiff, Nat.reduceLT, Nat.reduceAdd, Nat.reduceSub, Nat.reduceMul, e10, e01, en1, en2, en3, en4, en6, rq1, rq2, rq3, rq4, rq6, rm1, rm2, rm3, rm4, rm6, fz0, fz1, X5_bound_e, X5_isIn_e, Nat.lt_irrefl, Nat.le_refl, Nat.not_lt_zero, Nat.zero_le, n9a, n9b, n9c, n9d, n9e, n9f, n9g, t4, ↓reduceIte]
        · refine ⟨_, Or.inr ⟨hno, rfl⟩, fun nx => ?_⟩
          simp (disch := omega) only [gi_nI, tn_nI, hs_1, hs_2, hs_3, hs_4, hs_5, hs_6, hs_7, hs_s, hs_m, hs_h, hs_t, lit_nI, nI_add, nI_mul, nI_eq, nI_leI, nI_ltI, nm_j, bd_j, Nat.one_ne_zero, Nat.zero_ne_one, Nat.reduceEqDiff, Nat.reduceLeDiff, Nat.reduceLT, Nat.reduceAdd, Nat.reduceSub, Nat.reduceMul, e10, e01, en1, en2, en3, en4, en6, rq1, rq2, rq3, rq4, rq6, rm1, rm2, rm3, rm4, rm6, fz0, fz1, X5_bound_e, X5_isIn_e, Nat.lt_irrefl, Nat.le_refl, Nat.not_lt_zero, Nat.zero_le, n9a, n9b, n9c, n9d, n9e, n9f, n9g, t4, ↓reduceIte]
  · have e1 := (ht GM).2
    refine ⟨GM, hS, Or.inr ⟨fun z => hx z.1, ?_⟩⟩
    simp (disch := omega) only [gi_nI, tn_nI, hs_1, hs_2, hs_3, hs_4, hs_5, hs_6, hs_7, hs_s, hs_m, hs_h, hs_t, lit_nI, nI_add, nI_mul, nI_eq, nI_leI, nI_ltI, nm_j, bd_j, Nat.one_ne_zero, Nat.zero_ne_one, Nat.reduceEqDiff, Nat.reduceLeDiff, Nat.reduceLT, Nat.reduceAdd, Nat.reduceSub, Nat.reduceMul, e10, e01, en1, en2, en3, en4, en6, rq1, rq2, rq3, rq4, rq6, rm1, rm2, rm3, rm4, rm6, fz0, fz1, X5_bound_e, X5_isIn_e, Nat.lt_irrefl, Nat.le_refl, Nat.not_lt_zero, Nat.zero_le, n9a, n9b, n9c, n9d, n9e, n9f, n9g, e1, fzp0, ↓reduceIte]
theorem dec_ex (P : Nat → Prop) : ∃ Q : Nat → Bool, ∀ j, Q j = true ↔ P j := ⟨fun j => @decide (P j) (Classical.propDecidable _), fun j => @decide_eq_true_iff (P j) (Classical.propDecidable _)⟩
theorem r_whoTold {n t k g w z q M : St} (hR : R n t k g w z q M) : ∃ r t' M', f_X4_whoTold n t k g w z q = some (r, t') ∧ f_X5_whoTold M = some (r, M') ∧ R n t' k g w z q M' := by
  obtain ⟨c, ct, kc, Gn, Gt, Gk, GM, rfl, rfl, rfl, rfl, hG, hZ, hK, hS⟩ := hR
  have hI := hG.1
  have hN := hI.2.2.1
  have s7 := hS.2.2.2.2.2.2.1
  obtain ⟨L, hL, s8⟩ := hS.2.2.2.2.2.2.2.1
  have hw : w 1 0 = nI L := by rw [s7, s8]
  obtain ⟨P, hP⟩ := dec_ex (fun m => can c m ∧ so (tel c m) (w 0) L)
  have c0 : ∃ r, f_X4_whoTold (hs c Gn) (hs ct Gt) (hs kc Gk) g w z q = some r ∧ ∃ d, r = (btN (fun m => P m = true) (c 16 1), hs d Gt) ∧ Zc d := by
    unfold f_X4_whoTold
    refine lp_r (fun j s => ∃ d, s = (btN (fun m => P m = true) j, nI j, hs d Gt) ∧ Zc d) _ (c 16 1) ⟨ct, rfl, hZ⟩ (fun j hj s hs1 => Or.inl ?_) (fun s hs1 => ?_) (by omega)
    · obtain ⟨d, rfl, hd⟩ := hs1
      have h1 : ¬ c 16 1 ≤ j := by omega
      have e1 := X0_copyFrom (G := Gn) (Gt := Gt) hG.2.1 hd
      have hz := (Hd_tl (m := j) hG.hd).2.1
      rcases X4_rt (n := hs c Gn) (Gt := Gt) (k := hs kc Gk) (g := g) (z := z) (q := q) (m := j) hG.hd hw hL (by omega) with ⟨hy, e2⟩ | ⟨hy, e2⟩
      · rw [btN_t (P := fun m => P m = true) ((hP j).mpr hy)]
        refine ⟨_, ⟨_, rfl, hz⟩, fun nx => ?_⟩
        simp (disch := omega) only [gi_nI, tn_nI, hs_1, hs_2, hs_3, hs_4, hs_5, hs_6, hs_7, hs_s, hs_m, hs_h, hs_t, lit_nI, nI_add, nI_mul, nI_eq, nI_leI, nI_ltI, nm_j, bd_j, Nat.one_ne_zero, Nat.zero_ne_one, Nat.reduceEqDiff, Nat.reduceLeDiff, Nat.reduceLT, Nat.reduceAdd, Nat.reduceSub, Nat.reduceMul, e10, e01, en1, en2, en3, en4, en6, rq1, rq2, rq3, rq4, rq6, rm1, rm2, rm3, rm4, rm6, fz0, fz1, X5_bound_e, X5_isIn_e, Nat.lt_irrefl, Nat.le_refl, Nat.not_lt_zero, Nat.zero_le, n9a, n9b, n9c, n9d, n9e, n9f, n9g, h1, e1, e2, bt_e, ↓reduceIte]
      · rw [btN_f (P := fun m => P m = true) (fun y => hy ((hP j).mp y))]
        refine ⟨_, ⟨_, rfl, hz⟩, fun nx => ?_⟩
        simp (disch := omega) only [gi_nI, tn_nI, hs_1, hs_2, hs_3, hs_4, hs_5, hs_6, hs_7, hs_s, hs_m, hs_h, hs_t, lit_nI, nI_add, nI_mul, nI_eq, nI_leI, nI_ltI, nm_j, bd_j, Nat.one_ne_zero, Nat.zero_ne_one, Nat.reduceEqDiff, Nat.reduceLeDiff, Nat.reduceLT, Nat.reduceAdd, Nat.reduceSub, Nat.reduceMul, e10, e01, en1, en2, en3, en4, en6, rq1, rq2, rq3, rq4, rq6, rm1, rm2, rm3, rm4, rm6, fz0, fz1, X5_bound_e, X5_isIn_e, Nat.lt_irrefl, Nat.le_refl, Nat.not_lt_zero, Nat.zero_le, n9a, n9b, n9c, n9d, n9e, n9f, n9g, h1, e1, e2, ↓reduceIte]
    · obtain ⟨d, rfl, hd⟩ := hs1
      refine ⟨_, ⟨d, rfl, hd⟩, fun nx => ?_⟩
      simp (disch := omega) only [gi_nI, tn_nI, hs_1, hs_2, hs_3, hs_4, hs_5, hs_6, hs_7, hs_s, hs_m, hs_h, hs_t, lit_nI, nI_add, nI_mul, nI_eq, nI_leI, nI_ltI, nm_j, bd_j, Nat.one_ne_zero, Nat.zero_ne_one, Nat.reduceEqDiff, Nat.reduceLeDiff, Nat.reduceLT, Nat.reduceAdd, Nat.reduceSub, Nat.reduceMul, e10, e01, en1, en2, en3, en4, en6, rq1, rq2, rq3, rq4, rq6, rm1, rm2, rm3, rm4, rm6, fz0, fz1, X5_bound_e, X5_isIn_e, Nat.lt_irrefl, Nat.le_refl, Nat.not_lt_zero, Nat.zero_le, n9a, n9b, n9c, n9d, n9e, n9f, n9g, ↓reduceIte]
  have c5 : ∃ r, f_X5_whoTold (hs c GM) = some r ∧ ∃ G', r = (btN (fun m => P m = true) (c 16 1), hs c G') ∧ Sx kc g w q G' := by
    unfold f_X5_whoTold
    refine lp_r (fun j s => ∃ G', s = (btN (fun m => P m = true) j, nI j, hs c G') ∧ Sx kc g w q G') _ (c 16 1) ⟨GM, rfl, hS⟩ (fun j hj s hs1 => Or.inl ?_) (fun s hs1 => ?_) (by omega)
    · obtain ⟨G, rfl, hSG⟩ := hs1
      have h1 : ¬ c 16 1 ≤ j := by omega
      obtain ⟨G', s1, ⟨hy, e2⟩ | ⟨hy, e2⟩⟩ := X5_sb (m := j) hG hSG hw hL (by omega)
      · rw [btN_t (P := fun m => P m = true) ((hP j).mpr hy)]
        refine ⟨_, ⟨_, rfl, s1⟩, fun nx => ?_⟩
        simp (disch := omega) only [gi_nI, tn_nI, hs_1, hs_2, hs_3, hs_4, hs_5, hs_6, hs_7, hs_s, hs_m, hs_h, hs_t, lit_nI, nI_add, nI_mul, nI_eq, nI_leI, nI_ltI, nm_j, bd_j, Nat.one_ne_zero, Nat.zero_ne_one, Nat.reduceEqDiff, Nat.reduceLeDiff, Nat.reduceLT, Nat.reduceAdd, Nat.reduceSub, Nat.reduceMul, e10, e01, en1, en2, en3, en4, en6, rq1, rq2, rq3, rq4, rq6, rm1, rm2, rm3, rm4, rm6, fz0, fz1, X5_bound_e, X5_isIn_e, Nat.lt_irrefl, Nat.le_refl, Nat.not_lt_zero, Nat.zero_le, n9a, n9b, n9c, n9d, n9e, n9f, n9g, h1, e2, bt_e, ↓reduceIte]
      · rw [btN_f (P := fun m => P m = true) (fun y => hy ((hP j).mp y))]
        refine ⟨_, ⟨_, rfl, s1⟩, fun nx => ?_⟩
        simp (disch := omega) only [gi_nI, tn_nI, hs_1, hs_2, hs_3, hs_4, hs_5, hs_6, hs_7, hs_s, hs_m, hs_h, hs_t, lit_nI, nI_add, nI_mul, nI_eq, nI_leI, nI_ltI, nm_j, bd_j, Nat.one_ne_zero, Nat.zero_ne_one, Nat.reduceEqDiff, Nat.reduceLeDiff, Nat.reduceLT, Nat.reduceAdd, Nat.reduceSub, Nat.reduceMul, e10, e01, en1, en2, en3, en4, en6, rq1, rq2, rq3, rq4, rq6, rm1, rm2, rm3, rm4, rm6, fz0, fz1, X5_bound_e, X5_isIn_e, Nat.lt_irrefl, Nat.le_refl, Nat.not_lt_zero, Nat.zero_le, n9a, n9b, n9c, n9d, n9e, n9f, n9g, h1, e2, or0, ↓reduceIte]
    · obtain ⟨G, rfl, hSG⟩ := hs1
      refine ⟨_, ⟨G, rfl, hSG⟩, fun nx => ?_⟩
      simp (disch := omega) only [gi_nI, tn_nI, hs_1, hs_2, hs_3, hs_4, hs_5, hs_6, hs_7, hs_s, hs_m, hs_h, hs_t, lit_nI, nI_add, nI_mul, nI_eq, nI_leI, nI_ltI, nm_j, bd_j, Nat.one_ne_zero, Nat.zero_ne_one, Nat.reduceEqDiff, Nat.reduceLeDiff, Nat.reduceLT, Nat.reduceAdd, Nat.reduceSub, Nat.reduceMul, e10, e01, en1, en2, en3, en4, en6, rq1, rq2, rq3, rq4, rq6, rm1, rm2, rm3, rm4, rm6, fz0, fz1, X5_bound_e, X5_isIn_e, Nat.lt_irrefl, Nat.le_refl, Nat.not_lt_zero, Nat.zero_le, n9a, n9b, n9c, n9d, n9e, n9f, n9g, ↓reduceIte]
  obtain ⟨_, a1, d, rfl, a2⟩ := c0
  obtain ⟨_, a3, G', rfl, a4⟩ := c5
  exact ⟨_, _, _, a1, a3, c, d, kc, Gn, Gt, Gk, G', rfl, rfl, rfl, rfl, hG, a2, hK, a4⟩
