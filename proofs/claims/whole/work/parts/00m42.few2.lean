/-! FEWEST, the words -/
def fw (c : G2) (s : Nat) : Nat → (Nat → Nat) → Nat → Nat → Int32 × (Nat → Nat)
  | 0, a, l, n => (if l = 0 then nI n else -nI 9, a)
  | d + 1, a, l, n => if l = 0 then (nI n, a) else if dm (wz c s a) (c 16 1) = 0 then (-nI 9, a) else fw c s d (fun k => if k = db (wz c s a) (c 16 1) then a (db (wz c s a) (c 16 1)) + 1 else a k) (l - dm (wz c s a) (c 16 1)) (n + 1)
def lk (x : Int32) (l : Nat) : Prop := l ≤ 40000 ∧ (x = nI l ∨ (l = 0 ∧ x ≤ nI 0))
theorem lk_0 {x : Int32} {l : Nat} (h : lk x l) : x ≤ nI 0 ↔ l = 0 := by
  obtain ⟨h1, rfl | ⟨h2, h3⟩⟩ := h
  · rw [nI_leI (by omega) (by omega)]; omega
  · exact ⟨fun _ => h2, fun _ => h3⟩
theorem lk_s {l w : Nat} (h : l ≤ 40000) (hw : w ≤ 40000) : lk (nI l - nI w) (l - w) := by
  refine ⟨by omega, ?_⟩
  by_cases h1 : w ≤ l
  · exact Or.inl (nI_sub h1)
  · refine Or.inr ⟨by omega, ?_⟩
    rw [Int32.le_iff_toInt_le, Int32.toInt_sub, nI_toInt (by omega), nI_toInt (by omega), nI_toInt (by omega), Int.bmod_eq_of_le (by omega) (by omega)]
    omega
def sm (a : Nat → Nat) : Nat := a 0 + a 1 + a 2 + a 3 + a 4 + a 5 + a 6 + a 7
theorem sm_s {a : Nat → Nat} {m : Nat} (h : m < 8) : sm (fun k => if k = m then a m + 1 else a k) = sm a + 1 := by
  rcases (show m = 0 ∨ m = 1 ∨ m = 2 ∨ m = 3 ∨ m = 4 ∨ m = 5 ∨ m = 6 ∨ m = 7 by omega) with rfl | rfl | rfl | rfl | rfl | rfl | rfl | rfl <;> simp [sm] <;> omega
theorem wz_pos {c : G2} {s : Nat} {a : Nat → Nat} {m : Nat} (h : wz c s a m ≠ 0) : a m < c 6 m ∧ wz c s a m = wth c m := by
  unfold wz at h ⊢
  split
  · rename_i hx
    exact ⟨hx.2, rfl⟩
  · rename_i hx
    rw [if_neg hx] at h
    exact absurd rfl h
theorem fw_ok {c : G2} {s : Nat} : ∀ d a l n, (∀ m, a m ≤ c 6 m) → ∀ m, (fw c s d a l n).2 m ≤ c 6 m
  | 0, a, l, n, h, m => h m
  | d + 1, a, l, n, h, m => by
    unfold fw
    split
    · exact h m
    · split
      · exact h m
      · rename_i h2
        have ds := db_s (f := wz c s a) (c 16 1) (by omega)
        have hp := wz_pos (c := c) (s := s) (a := a) (m := db (wz c s a) (c 16 1)) (by rw [ds.2]; exact h2)
        refine fw_ok d _ _ _ (fun k => ?_) m
        split
        · rename_i hk; rw [hk]; omega
        · exact h k
theorem fw_or {c : G2} {s : Nat} : ∀ d a l n, n + d ≤ 72 → (fw c s d a l n).1 = -nI 9 ∨ ∃ k, n ≤ k ∧ k ≤ 72 ∧ (0 < l → n < k) ∧ (fw c s d a l n).1 = nI k
  | 0, a, l, n, h => by
    by_cases hl : l = 0
    · exact Or.inr ⟨n, Nat.le_refl _, by omega, by omega, by simp only [fw, hl, ↓reduceIte]⟩
    · exact Or.inl (by simp only [fw, hl, ↓reduceIte])
  | d + 1, a, l, n, h => by
    by_cases hl : l = 0
    · exact Or.inr ⟨n, Nat.le_refl _, by omega, by omega, by simp only [fw, hl, ↓reduceIte]⟩
    · by_cases hd : dm (wz c s a) (c 16 1) = 0
      · exact Or.inl (by simp only [fw, hl, hd, ↓reduceIte])
      · rcases fw_or d (fun k => if k = db (wz c s a) (c 16 1) then a (db (wz c s a) (c 16 1)) + 1 else a k) (l - dm (wz c s a) (c 16 1)) (n + 1) (by omega) with e | ⟨k, h1, h2, h3, e⟩
        · exact Or.inl (by simp only [fw, hl, hd, ↓reduceIte]; exact e)
        · exact Or.inr ⟨k, by omega, h2, fun _ => by omega, by simp only [fw, hl, hd, ↓reduceIte]; exact e⟩
theorem n0n : (nI 0 ≤ -nI 9) = False := eq_false (by decide +kernel)
def FW (c : G2) (s : Nat) : Int32 × (Nat → Nat) := fw c s 72 (fun _ => 0) (lck c s) 0
theorem FW_ok {c : G2} {s m : Nat} : (FW c s).2 m ≤ c 6 m := fw_ok 72 _ _ _ (fun _ => Nat.zero_le _) m
theorem FW_or {c : G2} {s : Nat} : (FW c s).1 = -nI 9 ∨ ∃ k, k ≤ 72 ∧ (0 < lck c s → 0 < k) ∧ (FW c s).1 = nI k := by
  rcases fw_or (c := c) (s := s) 72 (fun _ => 0) (lck c s) 0 (by decide) with e | ⟨k, h1, h2, h3, e⟩
  · exact Or.inl e
  · exact Or.inr ⟨k, h2, h3, e⟩
theorem FW_0 {c : G2} {s : Nat} (h : lck c s = 0) : FW c s = (nI 0, fun _ => 0) := by
  unfold FW
  rw [h]
  unfold fw
  rfl
/-- what the loop keeps -/
def fI (c : G2) (d : Nat) (t : (Nat → Nat) × Nat × Nat) : Prop := t.2.2 + d = 72 ∧ (∀ m, t.1 m ≤ c 6 m) ∧ sm t.1 = t.2.2 ∧ t.2.1 ≤ 40000
theorem fI_s {c : G2} {s d l n : Nat} {a : Nat → Nat} (hI : Iv c) (h : fI c (d + 1) (a, l, n)) (h2 : ¬ dm (wz c s a) (c 16 1) = 0) : fI c d (fun k => if k = db (wz c s a) (c 16 1) then a (db (wz c s a) (c 16 1)) + 1 else a k, l - dm (wz c s a) (c 16 1), n + 1) := by
  obtain ⟨k1, k2, k3, k4⟩ := h
  have hN := hI.2.2.1
  have ds := db_s (f := wz c s a) (c 16 1) (by omega)
  have hp := wz_pos (c := c) (s := s) (a := a) (m := db (wz c s a) (c 16 1)) (by rw [ds.2]; exact h2)
  dsimp only at k1 k2 k3 k4
  refine ⟨by dsimp only; omega, fun k => ?_, ?_, by dsimp only; omega⟩
  · dsimp only
    split
    · rename_i hk; rw [hk]; omega
    · exact k2 k
  · dsimp only
    rw [sm_s (by omega), k3]
theorem X0_fewestWords {c : G2} {G : St} {s : Nat} (hI : Iv c) (h6 : ∀ m, c 6 m ≤ 9) (h : s < 5) : f_X0_fewestWords (hs c G) (nI s) = some ((FW c s).1, hs c (aj G 8 (FW c s).2)) := by
  have hN := hI.2.2.1
  have bl := lck_le (s := s) hI
  unfold f_X0_fewestWords
  refine lp_d (S := fun j => (nI j, hs c (aj G j (fun _ => 0)))) 8 (by rw [aj_0]; rfl) (fun j hj nx => ?_) (fun nx => ?_) (by omega)
  · have h1 : ¬ 8 ≤ j := by omega
    have e : su (hs c (aj G j (fun _ => 0))) 13 j (nI 0) = hs c (aj G (j + 1) (fun _ => 0)) := by rw [su_hso (by decide) (by decide), ← aj_s]
    simp (disch := omega) only [gi_nI, tn_nI, hs_1, hs_2, hs_3, hs_4, hs_5, hs_6, hs_7, hs_s, hs_m, hs_h, hs_t, lit_nI, nI_add, nI_mul, nI_eq, nI_leI, nI_ltI, nm_i, bd_s, Nat.one_ne_zero, Nat.zero_ne_one, Nat.reduceEqDiff, Nat.reduceLeDiff, Nat.reduceLT, Nat.reduceAdd, Nat.reduceSub, Nat.reduceMul, e10, e01, en1, en2, en3, en4, en6, rq1, rq2, rq3, rq4, rq6, rm1, rm2, rm3, rm4, rm6, fz0, fz1, X5_bound_e, X5_isIn_e, Nat.lt_irrefl, Nat.le_refl, Nat.not_lt_zero, Nat.zero_le, n9a, n9b, n9c, n9d, n9e, n9f, n9g, h1, e, ↓reduceIte]
  · have el := X0_lacks (G := aj G 8 (fun _ => 0)) hI h
    simp (disch := omega) only [gi_nI, tn_nI, hs_1, hs_2, hs_3, hs_4, hs_5, hs_6, hs_7, hs_s, hs_m, hs_h, hs_t, lit_nI, nI_add, nI_mul, nI_eq, nI_leI, nI_ltI, nm_i, bd_s, Nat.one_ne_zero, Nat.zero_ne_one, Nat.reduceEqDiff, Nat.reduceLeDiff, Nat.reduceLT, Nat.reduceAdd, Nat.reduceSub, Nat.reduceMul, e10, e01, en1, en2, en3, en4, en6, rq1, rq2, rq3, rq4, rq6, rm1, rm2, rm3, rm4, rm6, fz0, fz1, X5_bound_e, X5_isIn_e, Nat.lt_irrefl, Nat.le_refl, Nat.not_lt_zero, Nat.zero_le, n9a, n9b, n9c, n9d, n9e, n9f, n9g, el, ↓reduceIte]
    refine lp_k (fun d t x => fI c d t ∧ ∃ y, lk y t.2.1 ∧ x = (nI t.2.2, y, nI t.2.2, hs c (aj G 8 t.1))) (fun d t => some ((fw c s d t.1 t.2.1 t.2.2).1, hs c (aj G 8 (fw c s d t.1 t.2.1 t.2.2).2))) (fun d t x hx => ?_) (fun t x hx nx => ?_) 72 ((fun _ => 0), lck c s, 0) _ 1000 ⟨⟨rfl, fun _ => Nat.zero_le _, rfl, bl⟩, _, ⟨bl, Or.inl rfl⟩, rfl⟩ (by omega)
    · obtain ⟨a, l, n⟩ := t
      obtain ⟨hf, y, hy, rfl⟩ := hx
      have hf' := hf
      obtain ⟨k1, k2, k3, k4⟩ := hf
      dsimp only at k1 k2 k3 k4 hy ⊢
      have h1 : ¬ 72 ≤ n := by omega
      have hl0 := lk_0 hy
      by_cases hl : l = 0
      · left
        intro nx
        have hy0 := hl0.mpr hl
        simp (disch := omega) only [gi_nI, tn_nI, hs_1, hs_2, hs_3, hs_4, hs_5, hs_6, hs_7, hs_s, hs_m, hs_h, hs_t, lit_nI, nI_add, nI_mul, nI_eq, nI_leI, nI_ltI, nm_i, bd_s, Nat.one_ne_zero, Nat.zero_ne_one, Nat.reduceEqDiff, Nat.reduceLeDiff, Nat.reduceLT, Nat.reduceAdd, Nat.reduceSub, Nat.reduceMul, e10, e01, en1, en2, en3, en4, en6, rq1, rq2, rq3, rq4, rq6, rm1, rm2, rm3, rm4, rm6, fz0, fz1, X5_bound_e, X5_isIn_e, Nat.lt_irrefl, Nat.le_refl, Nat.not_lt_zero, Nat.zero_le, n9a, n9b, n9c, n9d, n9e, n9f, n9g, h1, hy0, ↓reduceIte]
        simp only [fw, hl, ↓reduceIte]
      · have hy0 : ¬ y ≤ nI 0 := fun z => hl (hl0.mp z)
        have hyl : y = nI l := by
          rcases hy.2 with e | ⟨e, -⟩
          · exact e
          · exact absurd e hl
        have ed := X0_dear (G := G) (s := s) hI k2 h
        unfold dA at ed
        by_cases hd : dm (wz c s a) (c 16 1) = 0
        · left
          intro nx
          rw [if_pos hd] at ed
          simp (disch := omega) only [gi_nI, tn_nI, hs_1, hs_2, hs_3, hs_4, hs_5, hs_6, hs_7, hs_s, hs_m, hs_h, hs_t, lit_nI, nI_add, nI_mul, nI_eq, nI_leI, nI_ltI, nm_i, bd_s, Nat.one_ne_zero, Nat.zero_ne_one, Nat.reduceEqDiff, Nat.reduceLeDiff, Nat.reduceLT, Nat.reduceAdd, Nat.reduceSub, Nat.reduceMul, e10, e01, en1, en2, en3, en4, en6, rq1, rq2, rq3, rq4, rq6, rm1, rm2, rm3, rm4, rm6, fz0, fz1, X5_bound_e, X5_isIn_e, Nat.lt_irrefl, Nat.le_refl, Nat.not_lt_zero, Nat.zero_le, n9a, n9b, n9c, n9d, n9e, n9f, n9g, h1, hy0, ed, ↓reduceIte]
          simp only [fw, hl, hd, ↓reduceIte]
        · right
          rw [if_neg hd] at ed
          have ds := db_s (f := wz c s a) (c 16 1) (by omega)
          have hp := wz_pos (c := c) (s := s) (a := a) (m := db (wz c s a) (c 16 1)) (by rw [ds.2]; exact hd)
          have hb8 : db (wz c s a) (c 16 1) < 8 := by omega
          have er := aj_r (c := c) (G := G) (a := a) hb8
          have ew := aj_w (c := c) (G := G) (a := a) (v := a (db (wz c s a) (c 16 1)) + 1) hb8
          have eW := X0_worth (G := aj G 8 (fun k => if k = db (wz c s a) (c 16 1) then a (db (wz c s a) (c 16 1)) + 1 else a k)) hI hb8
          rw [← hp.2, ds.2] at eW
          have bw := dm_le (fun k => wz_le (s := s) (a := a) hI k) (c 16 1)
          refine ⟨(fun k => if k = db (wz c s a) (c 16 1) then a (db (wz c s a) (c 16 1)) + 1 else a k, l - dm (wz c s a) (c 16 1), n + 1), _, ⟨fI_s hI hf' hd, nI l - nI (dm (wz c s a) (c 16 1)), lk_s k4 (by omega), rfl⟩, ?_, fun nx => ?_⟩
          · simp only [fw, hl, hd, ↓reduceIte]
          · subst hyl
            simp (disch := omega) only [gi_nI, tn_nI, hs_1, hs_2, hs_3, hs_4, hs_5, hs_6, hs_7, hs_s, hs_m, hs_h, hs_t, lit_nI, nI_add, nI_mul, nI_eq, nI_leI, nI_ltI, nm_i, bd_s, Nat.one_ne_zero, Nat.zero_ne_one, Nat.reduceEqDiff, Nat.reduceLeDiff, Nat.reduceLT, Nat.reduceAdd, Nat.reduceSub, Nat.reduceMul, e10, e01, en1, en2, en3, en4, en6, rq1, rq2, rq3, rq4, rq6, rm1, rm2, rm3, rm4, rm6, fz0, fz1, X5_bound_e, X5_isIn_e, Nat.lt_irrefl, Nat.le_refl, Nat.not_lt_zero, Nat.zero_le, n9a, n9b, n9c, n9d, n9e, n9f, n9g, h1, hy0, ed, er, ew, eW, ↓reduceIte]
    · obtain ⟨a, l, n⟩ := t
      obtain ⟨⟨k1, k2, k3, k4⟩, y, hy, rfl⟩ := hx
      dsimp only at k1 k2 k3 k4 hy ⊢
      have h1 : 72 ≤ n := by omega
      have hl0 := lk_0 hy
      by_cases hl : l = 0
      · have hy0 := hl0.mpr hl
        simp (disch := omega) only [gi_nI, tn_nI, hs_1, hs_2, hs_3, hs_4, hs_5, hs_6, hs_7, hs_s, hs_m, hs_h, hs_t, lit_nI, nI_add, nI_mul, nI_eq, nI_leI, nI_ltI, nm_i, bd_s, Nat.one_ne_zero, Nat.zero_ne_one, Nat.reduceEqDiff, Nat.reduceLeDiff, Nat.reduceLT, Nat.reduceAdd, Nat.reduceSub, Nat.reduceMul, e10, e01, en1, en2, en3, en4, en6, rq1, rq2, rq3, rq4, rq6, rm1, rm2, rm3, rm4, rm6, fz0, fz1, X5_bound_e, X5_isIn_e, Nat.lt_irrefl, Nat.le_refl, Nat.not_lt_zero, Nat.zero_le, n9a, n9b, n9c, n9d, n9e, n9f, n9g, h1, hy0, ↓reduceIte]
        simp only [fw, hl, ↓reduceIte]
      · have hy0 : ¬ y ≤ nI 0 := fun z => hl (hl0.mp z)
        simp (disch := omega) only [gi_nI, tn_nI, hs_1, hs_2, hs_3, hs_4, hs_5, hs_6, hs_7, hs_s, hs_m, hs_h, hs_t, lit_nI, nI_add, nI_mul, nI_eq, nI_leI, nI_ltI, nm_i, bd_s, Nat.one_ne_zero, Nat.zero_ne_one, Nat.reduceEqDiff, Nat.reduceLeDiff, Nat.reduceLT, Nat.reduceAdd, Nat.reduceSub, Nat.reduceMul, e10, e01, en1, en2, en3, en4, en6, rq1, rq2, rq3, rq4, rq6, rm1, rm2, rm3, rm4, rm6, fz0, fz1, X5_bound_e, X5_isIn_e, Nat.lt_irrefl, Nat.le_refl, Nat.not_lt_zero, Nat.zero_le, n9a, n9b, n9c, n9d, n9e, n9f, n9g, h1, hy0, ↓reduceIte]
        simp only [fw, hl, ↓reduceIte]
theorem X5_fewestOf {c : G2} {G : St} {s : Nat} (hI : Iv c) (h6 : ∀ m, c 6 m ≤ 9) (h : s < 5) : f_X5_fewestOf (hs c G) (nI s) = some ((FW c s).1, hs c (aj G 8 (FW c s).2)) := by
  have hN := hI.2.2.1
  have bl := lck_le (s := s) hI
  unfold f_X5_fewestOf
  refine lp_d (S := fun j => (nI j, hs c (aj G j (fun _ => 0)))) 8 (by rw [aj_0]; rfl) (fun j hj nx => ?_) (fun nx => ?_) (by omega)
  · have h1 : ¬ 8 ≤ j := by omega
    have e : su (hs c (aj G j (fun _ => 0))) 13 j (nI 0) = hs c (aj G (j + 1) (fun _ => 0)) := by rw [su_hso (by decide) (by decide), ← aj_s]
    simp (disch := omega) only [gi_nI, tn_nI, hs_1, hs_2, hs_3, hs_4, hs_5, hs_6, hs_7, hs_s, hs_m, hs_h, hs_t, lit_nI, nI_add, nI_mul, nI_eq, nI_leI, nI_ltI, nm_i, bd_s, Nat.one_ne_zero, Nat.zero_ne_one, Nat.reduceEqDiff, Nat.reduceLeDiff, Nat.reduceLT, Nat.reduceAdd, Nat.reduceSub, Nat.reduceMul, e10, e01, en1, en2, en3, en4, en6, rq1, rq2, rq3, rq4, rq6, rm1, rm2, rm3, rm4, rm6, fz0, fz1, X5_bound_e, X5_isIn_e, Nat.lt_irrefl, Nat.le_refl, Nat.not_lt_zero, Nat.zero_le, n9a, n9b, n9c, n9d, n9e, n9f, n9g, h1, e, ↓reduceIte]
  · have el := X5_lacks (G := aj G 8 (fun _ => 0)) hI h
    simp (disch := omega) only [gi_nI, tn_nI, hs_1, hs_2, hs_3, hs_4, hs_5, hs_6, hs_7, hs_s, hs_m, hs_h, hs_t, lit_nI, nI_add, nI_mul, nI_eq, nI_leI, nI_ltI, nm_i, bd_s, Nat.one_ne_zero, Nat.zero_ne_one, Nat.reduceEqDiff, Nat.reduceLeDiff, Nat.reduceLT, Nat.reduceAdd, Nat.reduceSub, Nat.reduceMul, e10, e01, en1, en2, en3, en4, en6, rq1, rq2, rq3, rq4, rq6, rm1, rm2, rm3, rm4, rm6, fz0, fz1, X5_bound_e, X5_isIn_e, Nat.lt_irrefl, Nat.le_refl, Nat.not_lt_zero, Nat.zero_le, n9a, n9b, n9c, n9d, n9e, n9f, n9g, el, ↓reduceIte]
    refine lp_k (fun d t x => fI c d t ∧ ∃ y, lk y t.2.1 ∧ x = (y, nI t.2.2, hs c (aj G 8 t.1))) (fun d t => some ((fw c s d t.1 t.2.1 t.2.2).1, hs c (aj G 8 (fw c s d t.1 t.2.1 t.2.2).2))) (fun d t x hx => ?_) (fun t x hx nx => ?_) 72 ((fun _ => 0), lck c s, 0) _ 1000 ⟨⟨rfl, fun _ => Nat.zero_le _, rfl, bl⟩, _, ⟨bl, Or.inl rfl⟩, rfl⟩ (by omega)
    · obtain ⟨a, l, n⟩ := t
      obtain ⟨hf, y, hy, rfl⟩ := hx
      have hf' := hf
      obtain ⟨k1, k2, k3, k4⟩ := hf
      dsimp only at k1 k2 k3 k4 hy ⊢
      have hl0 := lk_0 hy
      by_cases hl : l = 0
      · left
        intro nx
        have hy0 := hl0.mpr hl
        simp (disch := omega) only [gi_nI, tn_nI, hs_1, hs_2, hs_3, hs_4, hs_5, hs_6, hs_7, hs_s, hs_m, hs_h, hs_t, lit_nI, nI_add, nI_mul, nI_eq, nI_leI, nI_ltI, nm_i, bd_s, Nat.one_ne_zero, Nat.zero_ne_one, Nat.reduceEqDiff, Nat.reduceLeDiff, Nat.reduceLT, Nat.reduceAdd, Nat.reduceSub, Nat.reduceMul, e10, e01, en1, en2, en3, en4, en6, rq1, rq2, rq3, rq4, rq6, rm1, rm2, rm3, rm4, rm6, fz0, fz1, X5_bound_e, X5_isIn_e, Nat.lt_irrefl, Nat.le_refl, Nat.not_lt_zero, Nat.zero_le, n9a, n9b, n9c, n9d, n9e, n9f, n9g, hy0, ↓reduceIte]
        simp only [fw, hl, ↓reduceIte]
      · have hy0 : ¬ y ≤ nI 0 := fun z => hl (hl0.mp z)
        have hyl : y = nI l := by
          rcases hy.2 with e | ⟨e, -⟩
          · exact e
          · exact absurd e hl
        have ed := X5_dear (G := G) (s := s) hI k2 h
        unfold dA at ed
        by_cases hd : dm (wz c s a) (c 16 1) = 0
        · left
          intro nx
          rw [if_pos hd] at ed
          simp (disch := omega) only [gi_nI, tn_nI, hs_1, hs_2, hs_3, hs_4, hs_5, hs_6, hs_7, hs_s, hs_m, hs_h, hs_t, lit_nI, nI_add, nI_mul, nI_eq, nI_leI, nI_ltI, nm_i, bd_s, Nat.one_ne_zero, Nat.zero_ne_one, Nat.reduceEqDiff, Nat.reduceLeDiff, Nat.reduceLT, Nat.reduceAdd, Nat.reduceSub, Nat.reduceMul, e10, e01, en1, en2, en3, en4, en6, rq1, rq2, rq3, rq4, rq6, rm1, rm2, rm3, rm4, rm6, fz0, fz1, X5_bound_e, X5_isIn_e, Nat.lt_irrefl, Nat.le_refl, Nat.not_lt_zero, Nat.zero_le, n9a, n9b, n9c, n9d, n9e, n9f, n9g, hy0, ed, n0n, ↓reduceIte]
          simp only [fw, hl, hd, ↓reduceIte]
        · right
          rw [if_neg hd] at ed
          have ds := db_s (f := wz c s a) (c 16 1) (by omega)
          have hp := wz_pos (c := c) (s := s) (a := a) (m := db (wz c s a) (c 16 1)) (by rw [ds.2]; exact hd)
          have hb8 : db (wz c s a) (c 16 1) < 8 := by omega
          have er := aj_r (c := c) (G := G) (a := a) hb8
          have ew := aj_w (c := c) (G := G) (a := a) (v := a (db (wz c s a) (c 16 1)) + 1) hb8
          have eW := X5_worth (G := aj G 8 (fun k => if k = db (wz c s a) (c 16 1) then a (db (wz c s a) (c 16 1)) + 1 else a k)) hI hb8
          rw [← hp.2, ds.2] at eW
          have bw := dm_le (fun k => wz_le (s := s) (a := a) hI k) (c 16 1)
          refine ⟨(fun k => if k = db (wz c s a) (c 16 1) then a (db (wz c s a) (c 16 1)) + 1 else a k, l - dm (wz c s a) (c 16 1), n + 1), _, ⟨fI_s hI hf' hd, nI l - nI (dm (wz c s a) (c 16 1)), lk_s k4 (by omega), rfl⟩, ?_, fun nx => ?_⟩
          · simp only [fw, hl, hd, ↓reduceIte]
          · subst hyl
            simp (disch := omega) only [gi_nI, tn_nI, hs_1, hs_2, hs_3, hs_4, hs_5, hs_6, hs_7, hs_s, hs_m, hs_h, hs_t, lit_nI, nI_add, nI_mul, nI_eq, nI_leI, nI_ltI, nm_i, bd_s, Nat.one_ne_zero, Nat.zero_ne_one, Nat.reduceEqDiff, Nat.reduceLeDiff, Nat.reduceLT, Nat.reduceAdd, Nat.reduceSub, Nat.reduceMul, e10, e01, en1, en2, en3, en4, en6, rq1, rq2, rq3, rq4, rq6, rm1, rm2, rm3, rm4, rm6, fz0, fz1, X5_bound_e, X5_isIn_e, Nat.lt_irrefl, Nat.le_refl, Nat.not_lt_zero, Nat.zero_le, n9a, n9b, n9c, n9d, n9e, n9f, n9g, hy0, ed, er, ew, eW, ↓reduceIte]
    · obtain ⟨a, l, n⟩ := t
      obtain ⟨⟨k1, k2, k3, k4⟩, y, hy, rfl⟩ := hx
      dsimp only at k1 k2 k3 k4 hy ⊢
      have hl0 := lk_0 hy
      by_cases hl : l = 0
      · have hy0 := hl0.mpr hl
        simp (disch := omega) only [gi_nI, tn_nI, hs_1, hs_2, hs_3, hs_4, hs_5, hs_6, hs_7, hs_s, hs_m, hs_h, hs_t, lit_nI, nI_add, nI_mul, nI_eq, nI_leI, nI_ltI, nm_i, bd_s, Nat.one_ne_zero, Nat.zero_ne_one, Nat.reduceEqDiff, Nat.reduceLeDiff, Nat.reduceLT, Nat.reduceAdd, Nat.reduceSub, Nat.reduceMul, e10, e01, en1, en2, en3, en4, en6, rq1, rq2, rq3, rq4, rq6, rm1, rm2, rm3, rm4, rm6, fz0, fz1, X5_bound_e, X5_isIn_e, Nat.lt_irrefl, Nat.le_refl, Nat.not_lt_zero, Nat.zero_le, n9a, n9b, n9c, n9d, n9e, n9f, n9g, hy0, ↓reduceIte]
        simp only [fw, hl, ↓reduceIte]
      · have hy0 : ¬ y ≤ nI 0 := fun z => hl (hl0.mp z)
        have hd : dm (wz c s a) (c 16 1) = 0 := by
          refine dm_0 _ (fun k hk => ?_)
          have q0 := h6 0; have q1 := h6 1; have q2 := h6 2; have q3 := h6 3; have q4 := h6 4; have q5 := h6 5; have q6 := h6 6; have q7 := h6 7
          have p0 := k2 0; have p1 := k2 1; have p2 := k2 2; have p3 := k2 3; have p4 := k2 4; have p5 := k2 5; have p6 := k2 6; have p7 := k2 7
          have qk := h6 k
          unfold sm at k3
          have : a k = 9 := by
            rcases (show k = 0 ∨ k = 1 ∨ k = 2 ∨ k = 3 ∨ k = 4 ∨ k = 5 ∨ k = 6 ∨ k = 7 by omega) with rfl | rfl | rfl | rfl | rfl | rfl | rfl | rfl <;> omega
          unfold wz
          rw [if_neg (by omega)]
        have ed := X5_dear (G := G) (s := s) hI k2 h
        unfold dA at ed
        rw [if_pos hd] at ed
        simp (disch := omega) only [gi_nI, tn_nI, hs_1, hs_2, hs_3, hs_4, hs_5, hs_6, hs_7, hs_s, hs_m, hs_h, hs_t, lit_nI, nI_add, nI_mul, nI_eq, nI_leI, nI_ltI, nm_i, bd_s, Nat.one_ne_zero, Nat.zero_ne_one, Nat.reduceEqDiff, Nat.reduceLeDiff, Nat.reduceLT, Nat.reduceAdd, Nat.reduceSub, Nat.reduceMul, e10, e01, en1, en2, en3, en4, en6, rq1, rq2, rq3, rq4, rq6, rm1, rm2, rm3, rm4, rm6, fz0, fz1, X5_bound_e, X5_isIn_e, Nat.lt_irrefl, Nat.le_refl, Nat.not_lt_zero, Nat.zero_le, n9a, n9b, n9c, n9d, n9e, n9f, n9g, hy0, ed, n0n, ↓reduceIte]
        simp only [fw, hl, ↓reduceIte]
