/-! TWO -/
def tU (c : G2) (a x : Nat) : G2 := if x = 1 then tel c a else c
def tV (c : G2) (a b x y : Nat) : G2 := if y = 1 then tl (tU c a x) b else tU c a x
def tB (c : G2) (a b x y : Nat) : Prop := y = 1 ∧ b < tU c a x 16 1 ∧ 0 < tU c a x 6 b ∧ tU c a x 3 (tU c a x 7 b) = 0
def gv (o t : Bool) : Int32 := if o then (if t then nI 3 - nI 1 else nI 3) else (if t then nI 0 - nI 1 else nI 0)
theorem Hd_tU {c : G2} {a x : Nat} (hG : Hd c) (ha : a < c 16 1) : Hd (tU c a x) := by
  unfold tU
  split
  · exact Hd_tel hG ha
  · exact hG
theorem Hd_tV {c : G2} {a b x y : Nat} (hG : Hd c) (ha : a < c 16 1) : Hd (tV c a b x y) := by
  unfold tV
  split
  · exact Hd_tl (Hd_tU hG ha)
  · exact Hd_tU hG ha
theorem tU_7 {c : G2} {a x k : Nat} : tU c a x 7 k = c 7 k := by
  unfold tU
  split
  · exact tel_o (by decide) (by decide) (by decide) (by omega)
  · rfl
theorem tU_16 {c : G2} {a x k : Nat} (h : k ≠ 2) : tU c a x 16 k = c 16 k := by
  unfold tU
  split
  · exact tel_o (by decide) (by decide) (by decide) (by omega)
  · rfl
theorem tV_7 {c : G2} {a b x y k : Nat} : tV c a b x y 7 k = c 7 k := by
  unfold tV
  split
  · rw [tl_o (by decide) (by decide) (by decide) (by omega), tU_7]
  · exact tU_7
theorem tV_16 {c : G2} {a b x y k : Nat} (h : k ≠ 2) : tV c a b x y 16 k = c 16 k := by
  unfold tV
  split
  · rw [tl_o (by decide) (by decide) (by decide) (by omega), tU_16 h]
  · exact tU_16 h
/-- what of the two the man p has of it -/
def gn (c : G2) (p a b x y : Nat) [Decidable (tB c a b x y)] : Int32 := gv (decide (¬ tV c a b x y 3 (c 7 p) = 0)) (if p = a then decide (x = 1) else decide (tB c a b x y))
theorem gv_ff : gv false false = nI 0 := rfl
theorem gv_ft : gv false true = nI 0 - nI 1 := rfl
theorem gv_tf : gv true false = nI 3 := rfl
theorem gv_tt : gv true true = nI 3 - nI 1 := rfl
theorem X4_gain {c d : G2} {Gn Gt k g w z q : St} {p a b x y : Nat} [Decidable (tB c a b x y)] (hG : Gd c) (hd : Zc d) (ha : can c a) (hb : b < c 16 1) (hp : p = a ∨ p = b) (hx : x ≤ 1) (hy : y ≤ 1) : f_X4_gainOf (hs c Gn) (hs d Gt) k g w z q (nI p) (nI a) (nI b) (nI x) (nI y) = some (gn c p a b x y, hs (tV c a b x y) Gt) := by
  have hI := hG.1
  have hN := hI.2.2.1
  have hN5 := hI.2.1
  have ha1 := ha.1
  have e1 := X0_copyFrom (G := Gn) (Gt := Gt) hG.2.1 hd
  have e2 := X0_canTell (G := Gt) hI (show a < 2147483648 by omega)
  rw [if_pos (show a < c 16 1 ∧ 0 < c 6 a ∧ c 3 (c 7 a) = 0 from ha)] at e2
  have e3 := X0_word (G := Gt) hI ha.1 ha.2.1 ha.2.2
  have hHU := Hd_tU (x := x) hG.hd ha1
  have hHV := Hd_tV (b := b) (x := x) (y := y) hG.hd ha1
  have hp1 : p < c 16 1 := by rcases hp with rfl | rfl <;> assumption
  have h7 := hI.2.2.2.2 p hp1
  have e7 : tV c a b x y 7 p = c 7 p := tV_7
  have e8 := X0_isIn (G := Gt) hHV.1 (show c 7 p < 5 by omega)
  have hpe : (p = a) = True ∨ (p = a) = False := by by_cases h : p = a <;> simp [h]
  have hxx : x = 0 ∨ x = 1 := by omega
  have hyy : y = 0 ∨ y = 1 := by omega
  have hb8 : b < 2147483648 := by omega
  have e6 := X0_wd (G := Gt) hHU.1 hb8
  rcases tell_or hHU.1 hb8 with ⟨ht, htt⟩ | ⟨ht, htt⟩
  · have e5 := (htt Gt).1
    rcases hyy with rfl | rfl
    · have hV : tV c a b x 0 = tU c a x := by unfold tV; rfl
      have hB : ¬ tB c a b x 0 := fun z => absurd z.1 (by decide)
      rw [hV] at e7 e8
      unfold gn f_X4_gainOf
      rw [hV]
      rcases hxx with rfl | rfl
      · have hU : tU c a 0 = c := rfl
        rw [hU] at e7 e8
        rw [hU]
        by_cases ho : c 3 (c 7 p) = 0 <;> rcases hpe with hpa | hpa <;> simp only [ho, ↓reduceIte] at e8 <;> simp only [ho, hpa, hB, not_true_eq_false, not_false_eq_true, decide_true, decide_false, Nat.zero_ne_one, ↓reduceIte, gv_ff, gv_ft, gv_tf, gv_tt] <;> simp (disch := omega) only [gi_nI, tn_nI, hs_1, hs_2, hs_3, hs_4, hs_5, hs_6, hs_7, hs_s, hs_m, hs_h, hs_t, lit_nI, nI_add, nI_mul, nI_eq, nI_leI, nI_ltI, nm_i, bd_s, Nat.one_ne_zero, Nat.zero_ne_one, Nat.reduceEqDiff, Nat.reduceLeDiff, Nat.reduceLT, Nat.reduceAdd, Nat.reduceSub, Nat.reduceMul, e10, e01, en1, en2, en3, en4, en6, rq1, rq2, rq3, rq4, rq6, rm1, rm2, rm3, rm4, rm6, fz0, fz1, X5_bound_e, X5_isIn_e, Nat.lt_irrefl, Nat.le_refl, Nat.not_lt_zero, Nat.zero_le, n9a, n9b, n9c, n9d, n9e, n9f, n9g, e1, e2, e8, hpa, ↓reduceIte]
      · have hU : tU c a 1 = tel c a := rfl
        rw [hU] at e7 e8
        rw [hU]
        by_cases ho : tel c a 3 (c 7 p) = 0 <;> rcases hpe with hpa | hpa <;> simp only [ho, ↓reduceIte] at e8 <;> simp only [ho, hpa, hB, not_true_eq_false, not_false_eq_true, decide_true, decide_false, ↓reduceIte, gv_ff, gv_ft, gv_tf, gv_tt] <;> simp (disch := omega) only [gi_nI, tn_nI, hs_1, hs_2, hs_3, hs_4, hs_5, hs_6, hs_7, hs_s, hs_m, hs_h, hs_t, lit_nI, nI_add, nI_mul, nI_eq, nI_leI, nI_ltI, nm_i, bd_s, Nat.one_ne_zero, Nat.zero_ne_one, Nat.reduceEqDiff, Nat.reduceLeDiff, Nat.reduceLT, Nat.reduceAdd, Nat.reduceSub, Nat.reduceMul, e10, e01, en1, en2, en3, en4, en6, rq1, rq2, rq3, rq4, rq6, rm1, rm2, rm3, rm4, rm6, fz0, fz1, X5_bound_e, X5_isIn_e, Nat.lt_irrefl, Nat.le_refl, Nat.not_lt_zero, Nat.zero_le, n9a, n9b, n9c, n9d, n9e, n9f, n9g, e1, e2, e3, e7, e8, hpa, ↓reduceIte]
    · have hV : tV c a b x 1 = tl (tU c a x) b := by unfold tV; rfl
      have hB : tB c a b x 1 := ⟨rfl, ht⟩
      rw [hV] at e7 e8
      unfold gn f_X4_gainOf
      rw [hV]
      rcases hxx with rfl | rfl
      · have hU : tU c a 0 = c := rfl
        rw [hU] at e5 e6 e7 e8
        rw [hU]
        by_cases ho : tl c b 3 (c 7 p) = 0 <;> rcases hpe with hpa | hpa <;> simp only [ho, ↓reduceIte] at e8 <;> simp only [ho, hpa, hB, not_true_eq_false, not_false_eq_true, decide_true, decide_false, Nat.zero_ne_one, ↓reduceIte, gv_ff, gv_ft, gv_tf, gv_tt] <;> simp (disch := omega) only [gi_nI, tn_nI, hs_1, hs_2, hs_3, hs_4, hs_5, hs_6, hs_7, hs_s, hs_m, hs_h, hs_t, lit_nI, nI_add, nI_mul, nI_eq, nI_leI, nI_ltI, nm_i, bd_s, Nat.one_ne_zero, Nat.zero_ne_one, Nat.reduceEqDiff, Nat.reduceLeDiff, Nat.reduceLT, Nat.reduceAdd, Nat.reduceSub, Nat.reduceMul, e10, e01, en1, en2, en3, en4, en6, rq1, rq2, rq3, rq4, rq6, rm1, rm2, rm3, rm4, rm6, fz0, fz1, X5_bound_e, X5_isIn_e, Nat.lt_irrefl, Nat.le_refl, Nat.not_lt_zero, Nat.zero_le, n9a, n9b, n9c, n9d, n9e, n9f, n9g, e1, e2, e5, e6, e7, e8, hpa, ↓reduceIte]
      · have hU : tU c a 1 = tel c a := rfl
        rw [hU] at e5 e6 e7 e8
        rw [hU]
        by_cases ho : tl (tel c a) b 3 (c 7 p) = 0 <;> rcases hpe with hpa | hpa <;> simp only [ho, ↓reduceIte] at e8 <;> simp only [ho, hpa, hB, not_true_eq_false, not_false_eq_true, decide_true, decide_false, ↓reduceIte, gv_ff, gv_ft, gv_tf, gv_tt] <;> simp (disch := omega) only [gi_nI, tn_nI, hs_1, hs_2, hs_3, hs_4, hs_5, hs_6, hs_7, hs_s, hs_m, hs_h, hs_t, lit_nI, nI_add, nI_mul, nI_eq, nI_leI, nI_ltI, nm_i, bd_s, Nat.one_ne_zero, Nat.zero_ne_one, Nat.reduceEqDiff, Nat.reduceLeDiff, Nat.reduceLT, Nat.reduceAdd, Nat.reduceSub, Nat.reduceMul, e10, e01, en1, en2, en3, en4, en6, rq1, rq2, rq3, rq4, rq6, rm1, rm2, rm3, rm4, rm6, fz0, fz1, X5_bound_e, X5_isIn_e, Nat.lt_irrefl, Nat.le_refl, Nat.not_lt_zero, Nat.zero_le, n9a, n9b, n9c, n9d, n9e, n9f, n9g, e1, e2, e3, e5, e6, e7, e8, hpa, ↓reduceIte]
  · have e5 := (htt Gt).1
    have hB : ¬ tB c a b x y := fun z => ht z.2
    have hV : tV c a b x y = tU c a x := by
      unfold tV tl
      rw [if_neg ht]
      split <;> rfl
    rw [hV] at e7 e8
    unfold gn f_X4_gainOf
    rw [hV]
    rcases hxx with rfl | rfl
    · have hU : tU c a 0 = c := rfl
      rw [hU] at e5 e7 e8
      rw [hU]
      rcases hyy with rfl | rfl <;> by_cases ho : c 3 (c 7 p) = 0 <;> rcases hpe with hpa | hpa <;> simp only [ho, ↓reduceIte] at e8 <;> simp only [ho, hpa, hB, not_true_eq_false, not_false_eq_true, decide_true, decide_false, Nat.zero_ne_one, ↓reduceIte, gv_ff, gv_ft, gv_tf, gv_tt] <;> simp (disch := omega) only [gi_nI, tn_nI, hs_1, hs_2, hs_3, hs_4, hs_5, hs_6, hs_7, hs_s, hs_m, hs_h, hs_t, lit_nI, nI_add, nI_mul, nI_eq, nI_leI, nI_ltI, nm_i, bd_s, Nat.one_ne_zero, Nat.zero_ne_one, Nat.reduceEqDiff, Nat.reduceLeDiff, Nat.reduceLT, Nat.reduceAdd, Nat.reduceSub, Nat.reduceMul, e10, e01, en1, en2, en3, en4, en6, rq1, rq2, rq3, rq4, rq6, rm1, rm2, rm3, rm4, rm6, fz0, fz1, X5_bound_e, X5_isIn_e, Nat.lt_irrefl, Nat.le_refl, Nat.not_lt_zero, Nat.zero_le, n9a, n9b, n9c, n9d, n9e, n9f, n9g, e1, e2, e5, e7, e8, hpa, ↓reduceIte]
    · have hU : tU c a 1 = tel c a := rfl
      rw [hU] at e5 e7 e8
      rw [hU]
      rcases hyy with rfl | rfl <;> by_cases ho : tel c a 3 (c 7 p) = 0 <;> rcases hpe with hpa | hpa <;> simp only [ho, ↓reduceIte] at e8 <;> simp only [ho, hpa, hB, not_true_eq_false, not_false_eq_true, decide_true, decide_false, ↓reduceIte, gv_ff, gv_ft, gv_tf, gv_tt] <;> simp (disch := omega) only [gi_nI, tn_nI, hs_1, hs_2, hs_3, hs_4, hs_5, hs_6, hs_7, hs_s, hs_m, hs_h, hs_t, lit_nI, nI_add, nI_mul, nI_eq, nI_leI, nI_ltI, nm_i, bd_s, Nat.one_ne_zero, Nat.zero_ne_one, Nat.reduceEqDiff, Nat.reduceLeDiff, Nat.reduceLT, Nat.reduceAdd, Nat.reduceSub, Nat.reduceMul, e10, e01, en1, en2, en3, en4, en6, rq1, rq2, rq3, rq4, rq6, rm1, rm2, rm3, rm4, rm6, fz0, fz1, X5_bound_e, X5_isIn_e, Nat.lt_irrefl, Nat.le_refl, Nat.not_lt_zero, Nat.zero_le, n9a, n9b, n9c, n9d, n9e, n9f, n9g, e1, e2, e3, e5, e7, e8, hpa, ↓reduceIte]
