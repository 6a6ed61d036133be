/-! THE LETTERS: a statement happens, on both sides -/
theorem Gd_men {c : G2} (hG : Gd c) (h8 : c 16 1 < 8) (h7 : c 7 (c 16 1) < c 16 0) : Gd (gu c 16 1 (c 16 1 + 1)) := by
  obtain ⟨⟨b1, b2, b3, b4, b5⟩, g2, g3, g4, g5⟩ := hG
  refine ⟨⟨fun i j => ?_, ?_, ?_, fun m => ?_, fun m hm => ?_⟩, Zc_gu g2 (vd16 (by decide)), fun s hs0 => ?_, ?_, fun m => ?_⟩
  · unfold gu; split
    · omega
    · exact b1 i j
  · rw [gu_k (by decide)]; exact b2
  · rw [gu_s]; omega
  · rw [gu_a (by decide)]; exact b4 m
  · rw [gu_s] at hm
    rw [gu_a (by decide), gu_k (by decide)]
    by_cases hm2 : m = c 16 1
    · rw [hm2]; exact h7
    · exact b5 m (by omega)
  · rw [gu_a (by decide)] at hs0 ⊢
    exact g3 s hs0
  · rw [gu_k (by decide)]; exact g4
  · rw [gu_a (by decide)]; exact g5 m
theorem Gd_shp {c : G2} (hG : Gd c) (h5 : c 16 0 < 5) : Gd (gu c 16 0 (c 16 0 + 1)) := by
  obtain ⟨⟨b1, b2, b3, b4, b5⟩, g2, g3, g4, g5⟩ := hG
  refine ⟨⟨fun i j => ?_, ?_, ?_, fun m => ?_, fun m hm => ?_⟩, Zc_gu g2 (vd16 (by decide)), fun s hs0 => ?_, ?_, fun m => ?_⟩
  · unfold gu; split
    · omega
    · exact b1 i j
  · rw [gu_s]; omega
  · rw [gu_k (by decide)]; exact b3
  · rw [gu_a (by decide)]; exact b4 m
  · rw [gu_k (by decide)] at hm
    rw [gu_a (by decide), gu_s]
    have := b5 m hm
    omega
  · rw [gu_a (by decide)] at hs0 ⊢
    exact g3 s hs0
  · rw [gu_k (by decide)]; exact g4
  · rw [gu_a (by decide)]; exact g5 m
theorem Gd_z2 {c : G2} {s : Nat} (hG : Gd c) (h5 : s < 5) : Gd (gu c 2 s 0) := by
  obtain ⟨g1, g2, g3, g4, g5⟩ := hG
  refine ⟨Iv_gu g1 (by decide) (by decide) (by decide) (by decide), Zc_gu g2 (vd3 (by decide) (by decide) h5), fun x hx => ?_, ?_, fun m => ?_⟩
  · rw [gu_a (by decide)] at hx
    unfold gu
    split
    · rfl
    · exact g3 x hx
  · rw [gu_a (by decide)]; exact g4
  · rw [gu_a (by decide)]; exact g5 m
theorem Gd_z3 {c : G2} {s : Nat} (hG : Gd c) (h5 : s < 5) : Gd (gu c 3 s 0) := by
  obtain ⟨g1, g2, g3, g4, g5⟩ := hG
  refine ⟨Iv_gu g1 (by decide) (by decide) (by decide) (by decide), Zc_gu g2 (vd3 (by decide) (by decide) h5), fun x hx => ?_, ?_, fun m => ?_⟩
  · rw [gu_a (by decide)]
    apply g3
    intro e
    apply hx
    unfold gu
    split
    · rfl
    · exact e
  · rw [gu_a (by decide)]; exact g4
  · rw [gu_a (by decide)]; exact g5 m
theorem ck_z {T : Nat → Nat} {L p ch : Nat} {r : List Nat} (h : ck T L (ch :: r) p = none) : (p < L ∧ ft (T p) ch = true) ∧ ck T L r (p + 1) = none := by
  by_cases hx : p < L ∧ ft (T p) ch = true
  · rw [ck_y hx] at h
    exact ⟨hx, h⟩
  · rw [ck_n hx] at h
    cases h
def Fk (T : Nat → Nat) (k : Nat) (G : St) : Prop := G 9 k = nI (T (stp T k)) ∧ G 10 k = nI (stp T k) ∧ tv T (T (stp T k)) (stp T k + 1) k G
def SB (T : Nat → Nat) (g : St) (k : Nat) (d : G2) (o : Option G2) : Prop := (∀ d', o = some d' → Gd d' ∧ (∀ Gt, f_X1_happens g (hs d Gt) (nI (stp T k)) = some (nI 1, hs d' Gt)) ∧ ∀ G, Fk T k G → f_X5_comes (hs d G) (nI k) = some (nI 1, hs d' G)) ∧ (o = none → (∀ Gt, f_X1_happens g (hs d Gt) (nI (stp T k)) = some (nI 0, hs d Gt)) ∧ ∀ G, Fk T k G → f_X5_comes (hs d G) (nI k) = some (nI 0, hs d G))
theorem SB.y {T : Nat → Nat} {g : St} {k : Nat} {d d' : G2} (h1 : Gd d') (h2 : ∀ Gt, f_X1_happens g (hs d Gt) (nI (stp T k)) = some (nI 1, hs d' Gt)) (h3 : ∀ G, Fk T k G → f_X5_comes (hs d G) (nI k) = some (nI 1, hs d' G)) : ∃ o, SB T g k d o := ⟨some d', fun d'' e => by cases e; exact ⟨h1, h2, h3⟩, fun e => by cases e⟩
theorem SB.n {T : Nat → Nat} {g : St} {k : Nat} {d : G2} (h2 : ∀ Gt, f_X1_happens g (hs d Gt) (nI (stp T k)) = some (nI 0, hs d Gt)) (h3 : ∀ G, Fk T k G → f_X5_comes (hs d G) (nI k) = some (nI 0, hs d G)) : ∃ o, SB T g k d o := by
  refine ⟨none, ?_, fun _ => ⟨h2, h3⟩⟩
  intro d'' e
  cases e
theorem sgA {g : St} {T : Nat → Nat} {L j : Nat} (hg : ∀ j, j < L → g 0 j = nI (T j)) (hL : L ≤ 96) (hgL : g 1 0 = nI L) (hj : j < L) : f_X1_signAt g (nI j) = some (nI (T j)) := by
  have h1 : ¬ L ≤ j := by omega
  have e := hg j hj
  unfold f_X1_signAt
  simp (disch := omega) only [gi_nI, tn_nI, hs_1, hs_2, hs_3, hs_4, hs_5, hs_6, hs_7, hs_s, hs_m, hs_h, hs_t, lit_nI, nI_add, nI_mul, nI_eq, nI_leI, nI_ltI, nm_j, bd_j, Nat.one_ne_zero, Nat.zero_ne_one, Nat.reduceEqDiff, Nat.reduceLeDiff, Nat.reduceLT, Nat.reduceAdd, Nat.reduceSub, Nat.reduceMul, e10, e01, en1, en2, en3, en4, en6, rq1, rq2, rq3, rq4, rq6, rm1, rm2, rm3, rm4, rm6, fz0, fz1, X5_bound_e, X5_isIn_e, Nat.lt_irrefl, Nat.le_refl, Nat.not_lt_zero, Nat.zero_le, n9a, n9b, n9c, n9d, n9e, n9f, n9g, hgL, h1, e, ↓reduceIte]
theorem dgA {g : St} {T : Nat → Nat} {L j : Nat} (hg : ∀ j, j < L → g 0 j = nI (T j)) (hL : L ≤ 96) (hgL : g 1 0 = nI L) (hj : j < L) (h48 : 48 ≤ T j) : f_X1_digit g (nI j) = some (nI (T j - 48)) := by
  have e := sgA hg hL hgL hj
  unfold f_X1_digit
  simp (disch := omega) only [gi_nI, tn_nI, hs_1, hs_2, hs_3, hs_4, hs_5, hs_6, hs_7, hs_s, hs_m, hs_h, hs_t, lit_nI, nI_add, nI_mul, nI_eq, nI_leI, nI_ltI, nm_j, bd_j, Nat.one_ne_zero, Nat.zero_ne_one, Nat.reduceEqDiff, Nat.reduceLeDiff, Nat.reduceLT, Nat.reduceAdd, Nat.reduceSub, Nat.reduceMul, e10, e01, en1, en2, en3, en4, en6, rq1, rq2, rq3, rq4, rq6, rm1, rm2, rm3, rm4, rm6, fz0, fz1, X5_bound_e, X5_isIn_e, Nat.lt_irrefl, Nat.le_refl, Nat.not_lt_zero, Nat.zero_le, n9a, n9b, n9c, n9d, n9e, n9f, n9g, e, nI_sub, ↓reduceIte]
section STB
variable {T : Nat → Nat} {L k : Nat} {g : St} {d : G2}
theorem hap_b (hg : ∀ j, j < L → g 0 j = nI (T j)) (hL : L ≤ 96) (hgL : g 1 0 = nI L) (hw : wf T L k) (hk : k < 48) (hG : Gd d) (hb : T (stp T k) = 98) : ∃ o, SB T g k d o := by
  obtain ⟨w1, w2, w3⟩ := hw
  rw [hb] at w3
  obtain ⟨⟨q1, f1⟩, w4⟩ := ck_z w3
  obtain ⟨⟨q2, f2⟩, -⟩ := ck_z w4
  rw [ft57] at f1 f2
  have hI := hG.1
  have hN := hI.2.2.1
  have hN5 := hI.2.1
  have s0 := sgA hg hL hgL w1
  rw [hb] at s0
  have D1 := dgA hg hL hgL q1 f1.1
  have D2 := dgA hg hL hgL q2 f2.1
  obtain ⟨a, ha⟩ : ∃ a, a = T (stp T k + 1) - 48 := ⟨_, rfl⟩
  obtain ⟨e, he⟩ : ∃ e, e = T (stp T k + 1 + 1) - 48 := ⟨_, rfl⟩
  rw [← ha] at D1
  rw [← he] at D2
  have rr : ∀ G, Fk T k G → hs d G 9 k = nI 98 ∧ hs d G 11 (4 * k) = nI a ∧ hs d G 11 (4 * k + 1) = nI e := by
    rintro G ⟨x1, x2, x3⟩
    rw [hb] at x1 x3
    obtain ⟨y1, y2⟩ := x3.2.2.1 (Or.inl rfl)
    refine ⟨by rw [hs_o (by decide) (by decide), x1], by rw [hs_o (by decide) (by decide), y1, ha], by rw [hs_o (by decide) (by decide), y2, he]⟩
  have a9 : a < 2147483648 := by omega
  have e9 : e < 2147483648 := by omega
  by_cases h1 : a < d 16 1
  · by_cases h2 : e < d 16 0
    · refine SB.y (d' := gu d 7 a e) (Gd_gu7 hG h2 (by omega)) (fun Gt => ?_) (fun G hF => ?_)
      · have m1 := X0_hasMan (G := Gt) hI a9
        have m2 := X0_hasShip (G := Gt) hI e9
        rw [if_pos h1] at m1
        rw [if_pos h2] at m2
        unfold f_X1_happens f_X1_boardingHappens
        simp (disch := omega) only [gi_nI, tn_nI, hs_1, hs_2, hs_3, hs_4, hs_5, hs_6, hs_7, hs_s, hs_m, hs_h, hs_t, lit_nI, nI_add, nI_mul, nI_eq, nI_leI, nI_ltI, nm_j, bd_j, Nat.one_ne_zero, Nat.zero_ne_one, Nat.reduceEqDiff, Nat.reduceLeDiff, Nat.reduceLT, Nat.reduceAdd, Nat.reduceSub, Nat.reduceMul, e10, e01, en1, en2, en3, en4, en6, rq1, rq2, rq3, rq4, rq6, rm1, rm2, rm3, rm4, rm6, fz0, fz1, X5_bound_e, X5_isIn_e, Nat.lt_irrefl, Nat.le_refl, Nat.not_lt_zero, Nat.zero_le, n9a, n9b, n9c, n9d, n9e, n9f, n9g, D1, D2, s0, m1, m2, su_hs, fzp1, ↓reduceIte]
      · obtain ⟨r1, r2, r3⟩ := rr G hF
        have m1 := X5_isMan (G := G) hI a9
        have m2 := X5_isShip (G := G) hI e9
        rw [if_pos h1] at m1
        rw [if_pos h2] at m2
        unfold f_X5_comes
        simp (disch := omega) only [gi_nI, tn_nI, hs_1, hs_2, hs_3, hs_4, hs_5, hs_6, hs_7, hs_s, hs_m, hs_h, hs_t, lit_nI, nI_add, nI_mul, nI_eq, nI_leI, nI_ltI, nm_j, bd_j, Nat.one_ne_zero, Nat.zero_ne_one, Nat.reduceEqDiff, Nat.reduceLeDiff, Nat.reduceLT, Nat.reduceAdd, Nat.reduceSub, Nat.reduceMul, e10, e01, en1, en2, en3, en4, en6, rq1, rq2, rq3, rq4, rq6, rm1, rm2, rm3, rm4, rm6, fz0, fz1, X5_bound_e, X5_isIn_e, Nat.lt_irrefl, Nat.le_refl, Nat.not_lt_zero, Nat.zero_le, n9a, n9b, n9c, n9d, n9e, n9f, n9g, r1, r2, r3, m1, m2, su_hs, fzp1, ↓reduceIte]
    · refine SB.n (fun Gt => ?_) (fun G hF => ?_)
      · have m1 := X0_hasMan (G := Gt) hI a9
        have m2 := X0_hasShip (G := Gt) hI e9
        rw [if_pos h1] at m1
        rw [if_neg h2] at m2
        unfold f_X1_happens f_X1_boardingHappens
        simp (disch := omega) only [gi_nI, tn_nI, hs_1, hs_2, hs_3, hs_4, hs_5, hs_6, hs_7, hs_s, hs_m, hs_h, hs_t, lit_nI, nI_add, nI_mul, nI_eq, nI_leI, nI_ltI, nm_j, bd_j, Nat.one_ne_zero, Nat.zero_ne_one, Nat.reduceEqDiff, Nat.reduceLeDiff, Nat.reduceLT, Nat.reduceAdd, Nat.reduceSub, Nat.reduceMul, e10, e01, en1, en2, en3, en4, en6, rq1, rq2, rq3, rq4, rq6, rm1, rm2, rm3, rm4, rm6, fz0, fz1, X5_bound_e, X5_isIn_e, Nat.lt_irrefl, Nat.le_refl, Nat.not_lt_zero, Nat.zero_le, n9a, n9b, n9c, n9d, n9e, n9f, n9g, D1, D2, s0, m1, m2, su_hs, fzp0, ↓reduceIte]
      · obtain ⟨r1, r2, r3⟩ := rr G hF
        have m1 := X5_isMan (G := G) hI a9
        have m2 := X5_isShip (G := G) hI e9
        rw [if_pos h1] at m1
        rw [if_neg h2] at m2
        unfold f_X5_comes
        simp (disch := omega) only [gi_nI, tn_nI, hs_1, hs_2, hs_3, hs_4, hs_5, hs_6, hs_7, hs_s, hs_m, hs_h, hs_t, lit_nI, nI_add, nI_mul, nI_eq, nI_leI, nI_ltI, nm_j, bd_j, Nat.one_ne_zero, Nat.zero_ne_one, Nat.reduceEqDiff, Nat.reduceLeDiff, Nat.reduceLT, Nat.reduceAdd, Nat.reduceSub, Nat.reduceMul, e10, e01, en1, en2, en3, en4, en6, rq1, rq2, rq3, rq4, rq6, rm1, rm2, rm3, rm4, rm6, fz0, fz1, X5_bound_e, X5_isIn_e, Nat.lt_irrefl, Nat.le_refl, Nat.not_lt_zero, Nat.zero_le, n9a, n9b, n9c, n9d, n9e, n9f, n9g, r1, r2, r3, m1, m2, su_hs, fzp0, ↓reduceIte]
  · refine SB.n (fun Gt => ?_) (fun G hF => ?_)
    · have m1 := X0_hasMan (G := Gt) hI a9
      rw [if_neg h1] at m1
      unfold f_X1_happens f_X1_boardingHappens
      simp (disch := omega) only [gi_nI, tn_nI, hs_1, hs_2, hs_3, hs_4, hs_5, hs_6, hs_7, hs_s, hs_m, hs_h, hs_t, lit_nI, nI_add, nI_mul, nI_eq, nI_leI, nI_ltI, nm_j, bd_j, Nat.one_ne_zero, Nat.zero_ne_one, Nat.reduceEqDiff, Nat.reduceLeDiff, Nat.reduceLT, Nat.reduceAdd, Nat.reduceSub, Nat.reduceMul, e10, e01, en1, en2, en3, en4, en6, rq1, rq2, rq3, rq4, rq6, rm1, rm2, rm3, rm4, rm6, fz0, fz1, X5_bound_e, X5_isIn_e, Nat.lt_irrefl, Nat.le_refl, Nat.not_lt_zero, Nat.zero_le, n9a, n9b, n9c, n9d, n9e, n9f, n9g, D1, D2, s0, m1, su_hs, fzp0, ↓reduceIte]
    · obtain ⟨r1, r2, r3⟩ := rr G hF
      have m1 := X5_isMan (G := G) hI a9
      rw [if_neg h1] at m1
      unfold f_X5_comes
      simp (disch := omega) only [gi_nI, tn_nI, hs_1, hs_2, hs_3, hs_4, hs_5, hs_6, hs_7, hs_s, hs_m, hs_h, hs_t, lit_nI, nI_add, nI_mul, nI_eq, nI_leI, nI_ltI, nm_j, bd_j, Nat.one_ne_zero, Nat.zero_ne_one, Nat.reduceEqDiff, Nat.reduceLeDiff, Nat.reduceLT, Nat.reduceAdd, Nat.reduceSub, Nat.reduceMul, e10, e01, en1, en2, en3, en4, en6, rq1, rq2, rq3, rq4, rq6, rm1, rm2, rm3, rm4, rm6, fz0, fz1, X5_bound_e, X5_isIn_e, Nat.lt_irrefl, Nat.le_refl, Nat.not_lt_zero, Nat.zero_le, n9a, n9b, n9c, n9d, n9e, n9f, n9g, r1, r2, r3, m1, su_hs, fzp0, ↓reduceIte]
theorem hap_v (hg : ∀ j, j < L → g 0 j = nI (T j)) (hL : L ≤ 96) (hgL : g 1 0 = nI L) (hw : wf T L k) (hk : k < 48) (hG : Gd d) (hb : T (stp T k) = 118) : ∃ o, SB T g k d o := by
  obtain ⟨w1, w2, w3⟩ := hw
  rw [hb] at w3
  obtain ⟨⟨q1, f1⟩, w4⟩ := ck_z w3
  obtain ⟨⟨q2, f2⟩, -⟩ := ck_z w4
  rw [ft57] at f1 f2
  have hI := hG.1
  have hN := hI.2.2.1
  have hN5 := hI.2.1
  have s0 := sgA hg hL hgL w1
  rw [hb] at s0
  have D1 := dgA hg hL hgL q1 f1.1
  have D2 := dgA hg hL hgL q2 f2.1
  obtain ⟨a, ha⟩ : ∃ a, a = T (stp T k + 1) - 48 := ⟨_, rfl⟩
  obtain ⟨e, he⟩ : ∃ e, e = T (stp T k + 1 + 1) - 48 := ⟨_, rfl⟩
  rw [← ha] at D1
  rw [← he] at D2
  have rr : ∀ G, Fk T k G → hs d G 9 k = nI 118 ∧ hs d G 11 (4 * k) = nI a ∧ hs d G 11 (4 * k + 1) = nI e := by
    rintro G ⟨x1, x2, x3⟩
    rw [hb] at x1 x3
    obtain ⟨y1, y2⟩ := x3.2.2.1 (Or.inr rfl)
    refine ⟨by rw [hs_o (by decide) (by decide), x1], by rw [hs_o (by decide) (by decide), y1, ha], by rw [hs_o (by decide) (by decide), y2, he]⟩
  have a9 : a < 2147483648 := by omega
  by_cases h1 : a < d 16 1
  · refine SB.y (d' := gu d 6 a e) (Gd_gu hG (by omega) (by omega) (vd7 (by decide) (by decide) (by omega))) (fun Gt => ?_) (fun G hF => ?_)
    · have m1 := X0_hasMan (G := Gt) hI a9
      rw [if_pos h1] at m1
      unfold f_X1_happens f_X1_sinsHappen
      simp (disch := omega) only [gi_nI, tn_nI, hs_1, hs_2, hs_3, hs_4, hs_5, hs_6, hs_7, hs_s, hs_m, hs_h, hs_t, lit_nI, nI_add, nI_mul, nI_eq, nI_leI, nI_ltI, nm_j, bd_j, Nat.one_ne_zero, Nat.zero_ne_one, Nat.reduceEqDiff, Nat.reduceLeDiff, Nat.reduceLT, Nat.reduceAdd, Nat.reduceSub, Nat.reduceMul, e10, e01, en1, en2, en3, en4, en6, rq1, rq2, rq3, rq4, rq6, rm1, rm2, rm3, rm4, rm6, fz0, fz1, X5_bound_e, X5_isIn_e, Nat.lt_irrefl, Nat.le_refl, Nat.not_lt_zero, Nat.zero_le, n9a, n9b, n9c, n9d, n9e, n9f, n9g, D1, D2, s0, m1, su_hs, fzp1, ↓reduceIte]
    · obtain ⟨r1, r2, r3⟩ := rr G hF
      have m1 := X5_isMan (G := G) hI a9
      rw [if_pos h1] at m1
      unfold f_X5_comes
      simp (disch := omega) only [gi_nI, tn_nI, hs_1, hs_2, hs_3, hs_4, hs_5, hs_6, hs_7, hs_s, hs_m, hs_h, hs_t, lit_nI, nI_add, nI_mul, nI_eq, nI_leI, nI_ltI, nm_j, bd_j, Nat.one_ne_zero, Nat.zero_ne_one, Nat.reduceEqDiff, Nat.reduceLeDiff, Nat.reduceLT, Nat.reduceAdd, Nat.reduceSub, Nat.reduceMul, e10, e01, en1, en2, en3, en4, en6, rq1, rq2, rq3, rq4, rq6, rm1, rm2, rm3, rm4, rm6, fz0, fz1, X5_bound_e, X5_isIn_e, Nat.lt_irrefl, Nat.le_refl, Nat.not_lt_zero, Nat.zero_le, n9a, n9b, n9c, n9d, n9e, n9f, n9g, r1, r2, r3, m1, su_hs, fzp1, ↓reduceIte]
  · refine SB.n (fun Gt => ?_) (fun G hF => ?_)
    · have m1 := X0_hasMan (G := Gt) hI a9
      rw [if_neg h1] at m1
      unfold f_X1_happens f_X1_sinsHappen
      simp (disch := omega) only [gi_nI, tn_nI, hs_1, hs_2, hs_3, hs_4, hs_5, hs_6, hs_7, hs_s, hs_m, hs_h, hs_t, lit_nI, nI_add, nI_mul, nI_eq, nI_leI, nI_ltI, nm_j, bd_j, Nat.one_ne_zero, Nat.zero_ne_one, Nat.reduceEqDiff, Nat.reduceLeDiff, Nat.reduceLT, Nat.reduceAdd, Nat.reduceSub, Nat.reduceMul, e10, e01, en1, en2, en3, en4, en6, rq1, rq2, rq3, rq4, rq6, rm1, rm2, rm3, rm4, rm6, fz0, fz1, X5_bound_e, X5_isIn_e, Nat.lt_irrefl, Nat.le_refl, Nat.not_lt_zero, Nat.zero_le, n9a, n9b, n9c, n9d, n9e, n9f, n9g, D1, D2, s0, m1, su_hs, fzp0, ↓reduceIte]
    · obtain ⟨r1, r2, r3⟩ := rr G hF
      have m1 := X5_isMan (G := G) hI a9
      rw [if_neg h1] at m1
      unfold f_X5_comes
      simp (disch := omega) only [gi_nI, tn_nI, hs_1, hs_2, hs_3, hs_4, hs_5, hs_6, hs_7, hs_s, hs_m, hs_h, hs_t, lit_nI, nI_add, nI_mul, nI_eq, nI_leI, nI_ltI, nm_j, bd_j, Nat.one_ne_zero, Nat.zero_ne_one, Nat.reduceEqDiff, Nat.reduceLeDiff, Nat.reduceLT, Nat.reduceAdd, Nat.reduceSub, Nat.reduceMul, e10, e01, en1, en2, en3, en4, en6, rq1, rq2, rq3, rq4, rq6, rm1, rm2, rm3, rm4, rm6, fz0, fz1, X5_bound_e, X5_isIn_e, Nat.lt_irrefl, Nat.le_refl, Nat.not_lt_zero, Nat.zero_le, n9a, n9b, n9c, n9d, n9e, n9f, n9g, r1, r2, r3, m1, su_hs, fzp0, ↓reduceIte]
theorem hap_s (hg : ∀ j, j < L → g 0 j = nI (T j)) (hL : L ≤ 96) (hgL : g 1 0 = nI L) (hw : wf T L k) (hk : k < 48) (hG : Gd d) (hb : T (stp T k) = 115) : ∃ o, SB T g k d o := by
  obtain ⟨w1, w2, w3⟩ := hw
  rw [hb] at w3
  obtain ⟨⟨q1, f1⟩, w4⟩ := ck_z w3
  obtain ⟨⟨q2, f2⟩, -⟩ := ck_z w4
  rw [ft57] at f1
  rw [ft59] at f2
  have hI := hG.1
  have hN := hI.2.2.1
  have hN5 := hI.2.1
  have s0 := sgA hg hL hgL w1
  rw [hb] at s0
  have D1 := dgA hg hL hgL q1 f1.1
  have D2 := dgA hg hL hgL q2 (by omega)
  obtain ⟨a, ha⟩ : ∃ a, a = T (stp T k + 1) - 48 := ⟨_, rfl⟩
  rw [← ha] at D1
  have rr : ∀ G, Fk T k G → hs d G 9 k = nI 115 ∧ hs d G 11 (4 * k) = nI a := by
    rintro G ⟨x1, x2, x3⟩
    rw [hb] at x1 x3
    have y1 := x3.2.2.2 (Or.inl rfl)
    refine ⟨by rw [hs_o (by decide) (by decide), x1], by rw [hs_o (by decide) (by decide), y1, ha]⟩
  by_cases h1 : d 16 0 < 5
  · have hG1 : Gd (gu d 1 (d 16 0) a) := Gd_gu hG (by omega) (by omega) (vd3 (by decide) (by decide) h1)
    have hG2 := Gd_z2 hG1 h1
    have hG3 := Gd_z3 hG2 h1
    have o1 : gu d 1 (d 16 0) a 16 0 = d 16 0 := gu_a (by decide)
    have o2 : gu (gu d 1 (d 16 0) a) 2 (d 16 0) 0 16 0 = d 16 0 := by rw [gu_a (by decide), o1]
    have o3 : gu (gu (gu d 1 (d 16 0) a) 2 (d 16 0) 0) 3 (d 16 0) 0 16 0 = d 16 0 := by rw [gu_a (by decide), o2]
    have hG4 := Gd_shp hG3 (by rw [o3]; exact h1)
    rw [o3] at hG4
    refine SB.y hG4 (fun Gt => ?_) (fun G hF => ?_)
    · unfold f_X1_happens f_X0_addShip
      simp (disch := omega) only [gi_nI, tn_nI, hs_1, hs_2, hs_3, hs_4, hs_5, hs_6, hs_7, hs_s, hs_m, hs_h, hs_t, lit_nI, nI_add, nI_mul, nI_eq, nI_leI, nI_ltI, nm_j, bd_j, Nat.one_ne_zero, Nat.zero_ne_one, Nat.reduceEqDiff, Nat.reduceLeDiff, Nat.reduceLT, Nat.reduceAdd, Nat.reduceSub, Nat.reduceMul, e10, e01, en1, en2, en3, en4, en6, rq1, rq2, rq3, rq4, rq6, rm1, rm2, rm3, rm4, rm6, fz0, fz1, X5_bound_e, X5_isIn_e, Nat.lt_irrefl, Nat.le_refl, Nat.not_lt_zero, Nat.zero_le, n9a, n9b, n9c, n9d, n9e, n9f, n9g, D1, D2, s0, h1, su_hs, o1, o2, o3, su_hs16, fzp1, ↓reduceIte]
    · obtain ⟨r1, r2⟩ := rr G hF
      have h2 : ¬ d 16 0 = 5 := by omega
      unfold f_X5_comes f_X5_comesShip
      simp (disch := omega) only [gi_nI, tn_nI, hs_1, hs_2, hs_3, hs_4, hs_5, hs_6, hs_7, hs_s, hs_m, hs_h, hs_t, lit_nI, nI_add, nI_mul, nI_eq, nI_leI, nI_ltI, nm_j, bd_j, Nat.one_ne_zero, Nat.zero_ne_one, Nat.reduceEqDiff, Nat.reduceLeDiff, Nat.reduceLT, Nat.reduceAdd, Nat.reduceSub, Nat.reduceMul, e10, e01, en1, en2, en3, en4, en6, rq1, rq2, rq3, rq4, rq6, rm1, rm2, rm3, rm4, rm6, fz0, fz1, X5_bound_e, X5_isIn_e, Nat.lt_irrefl, Nat.le_refl, Nat.not_lt_zero, Nat.zero_le, n9a, n9b, n9c, n9d, n9e, n9f, n9g, r1, r2, h2, su_hs, o1, o2, o3, su_hs16, fzp1, ↓reduceIte]
  · refine SB.n (fun Gt => ?_) (fun G hF => ?_)
    · unfold f_X1_happens f_X0_addShip
      simp (disch := omega) only [gi_nI, tn_nI, hs_1, hs_2, hs_3, hs_4, hs_5, hs_6, hs_7, hs_s, hs_m, hs_h, hs_t, lit_nI, nI_add, nI_mul, nI_eq, nI_leI, nI_ltI, nm_j, bd_j, Nat.one_ne_zero, Nat.zero_ne_one, Nat.reduceEqDiff, Nat.reduceLeDiff, Nat.reduceLT, Nat.reduceAdd, Nat.reduceSub, Nat.reduceMul, e10, e01, en1, en2, en3, en4, en6, rq1, rq2, rq3, rq4, rq6, rm1, rm2, rm3, rm4, rm6, fz0, fz1, X5_bound_e, X5_isIn_e, Nat.lt_irrefl, Nat.le_refl, Nat.not_lt_zero, Nat.zero_le, n9a, n9b, n9c, n9d, n9e, n9f, n9g, D1, D2, s0, h1, fzp0, ↓reduceIte]
    · obtain ⟨r1, r2⟩ := rr G hF
      have h2 : d 16 0 = 5 := by omega
      unfold f_X5_comes f_X5_comesShip
      simp (disch := omega) only [gi_nI, tn_nI, hs_1, hs_2, hs_3, hs_4, hs_5, hs_6, hs_7, hs_s, hs_m, hs_h, hs_t, lit_nI, nI_add, nI_mul, nI_eq, nI_leI, nI_ltI, nm_j, bd_j, Nat.one_ne_zero, Nat.zero_ne_one, Nat.reduceEqDiff, Nat.reduceLeDiff, Nat.reduceLT, Nat.reduceAdd, Nat.reduceSub, Nat.reduceMul, e10, e01, en1, en2, en3, en4, en6, rq1, rq2, rq3, rq4, rq6, rm1, rm2, rm3, rm4, rm6, fz0, fz1, X5_bound_e, X5_isIn_e, Nat.lt_irrefl, Nat.le_refl, Nat.not_lt_zero, Nat.zero_le, n9a, n9b, n9c, n9d, n9e, n9f, n9g, r1, r2, h2, fzp0, ↓reduceIte]
theorem hap_t (hg : ∀ j, j < L → g 0 j = nI (T j)) (hL : L ≤ 96) (hgL : g 1 0 = nI L) (hw : wf T L k) (hk : k < 48) (hG : Gd d) (hb : T (stp T k) = 116) : ∃ o, SB T g k d o := by
  obtain ⟨w1, w2, w3⟩ := hw
  rw [hb] at w3
  obtain ⟨⟨q1, f1⟩, w4⟩ := ck_z w3
  obtain ⟨⟨q2, f2⟩, -⟩ := ck_z w4
  rw [ft57] at f1
  rw [ft59] at f2
  have hI := hG.1
  have hN := hI.2.2.1
  have hN5 := hI.2.1
  have s0 := sgA hg hL hgL w1
  rw [hb] at s0
  have D1 := dgA hg hL hgL q1 f1.1
  have D2 := dgA hg hL hgL q2 (by omega)
  obtain ⟨a, ha⟩ : ∃ a, a = T (stp T k + 1) - 48 := ⟨_, rfl⟩
  rw [← ha] at D1
  have rr : ∀ G, Fk T k G → hs d G 9 k = nI 116 ∧ hs d G 11 (4 * k) = nI a := by
    rintro G ⟨x1, x2, x3⟩
    rw [hb] at x1 x3
    have y1 := x3.2.2.2 (Or.inr rfl)
    refine ⟨by rw [hs_o (by decide) (by decide), x1], by rw [hs_o (by decide) (by decide), y1, ha]⟩
  rcases tell_or hI (show a < 2147483648 by omega) with ⟨hx, ht⟩ | ⟨hx, ht⟩
  · have hc5 := tcn_le (m := a) hI
    refine SB.y (Gd_tel hG hx.1) (fun Gt => ?_) (fun G hF => ?_)
    · have m1 := (ht Gt).1
      have m2 := X0_word (G := Gt) hI hx.1 hx.2.1 hx.2.2
      have m3 : ¬ (nI (tcn d a) < nI 0) := by rw [nI_ltI (by omega) (by omega)]; omega
      unfold f_X1_happens
      simp (disch := omega) only [gi_nI, tn_nI, hs_1, hs_2, hs_3, hs_4, hs_5, hs_6, hs_7, hs_s, hs_m, hs_h, hs_t, lit_nI, nI_add, nI_mul, nI_eq, nI_leI, nI_ltI, nm_j, bd_j, Nat.one_ne_zero, Nat.zero_ne_one, Nat.reduceEqDiff, Nat.reduceLeDiff, Nat.reduceLT, Nat.reduceAdd, Nat.reduceSub, Nat.reduceMul, e10, e01, en1, en2, en3, en4, en6, rq1, rq2, rq3, rq4, rq6, rm1, rm2, rm3, rm4, rm6, fz0, fz1, X5_bound_e, X5_isIn_e, Nat.lt_irrefl, Nat.le_refl, Nat.not_lt_zero, Nat.zero_le, n9a, n9b, n9c, n9d, n9e, n9f, n9g, D1, D2, s0, m1, m2, fzp1, ↓reduceIte]
    · obtain ⟨r1, r2⟩ := rr G hF
      have m1 := (ht G).2
      have m2 := X5_tellsOne (G := G) hI hx.1 hx.2.1
      unfold f_X5_comes
      simp (disch := omega) only [gi_nI, tn_nI, hs_1, hs_2, hs_3, hs_4, hs_5, hs_6, hs_7, hs_s, hs_m, hs_h, hs_t, lit_nI, nI_add, nI_mul, nI_eq, nI_leI, nI_ltI, nm_j, bd_j, Nat.one_ne_zero, Nat.zero_ne_one, Nat.reduceEqDiff, Nat.reduceLeDiff, Nat.reduceLT, Nat.reduceAdd, Nat.reduceSub, Nat.reduceMul, e10, e01, en1, en2, en3, en4, en6, rq1, rq2, rq3, rq4, rq6, rm1, rm2, rm3, rm4, rm6, fz0, fz1, X5_bound_e, X5_isIn_e, Nat.lt_irrefl, Nat.le_refl, Nat.not_lt_zero, Nat.zero_le, n9a, n9b, n9c, n9d, n9e, n9f, n9g, r1, r2, m1, m2, fzp1, ↓reduceIte]
  · refine SB.n (fun Gt => ?_) (fun G hF => ?_)
    · have m1 := (ht Gt).1
      unfold f_X1_happens
      simp (disch := omega) only [gi_nI, tn_nI, hs_1, hs_2, hs_3, hs_4, hs_5, hs_6, hs_7, hs_s, hs_m, hs_h, hs_t, lit_nI, nI_add, nI_mul, nI_eq, nI_leI, nI_ltI, nm_j, bd_j, Nat.one_ne_zero, Nat.zero_ne_one, Nat.reduceEqDiff, Nat.reduceLeDiff, Nat.reduceLT, Nat.reduceAdd, Nat.reduceSub, Nat.reduceMul, e10, e01, en1, en2, en3, en4, en6, rq1, rq2, rq3, rq4, rq6, rm1, rm2, rm3, rm4, rm6, fz0, fz1, X5_bound_e, X5_isIn_e, Nat.lt_irrefl, Nat.le_refl, Nat.not_lt_zero, Nat.zero_le, n9a, n9b, n9c, n9d, n9e, n9f, n9g, D1, D2, s0, m1, fzp0, ↓reduceIte]
    · obtain ⟨r1, r2⟩ := rr G hF
      have m1 := (ht G).2
      unfold f_X5_comes
      simp (disch := omega) only [gi_nI, tn_nI, hs_1, hs_2, hs_3, hs_4, hs_5, hs_6, hs_7, hs_s, hs_m, hs_h, hs_t, lit_nI, nI_add, nI_mul, nI_eq, nI_leI, nI_ltI, nm_j, bd_j, Nat.one_ne_zero, Nat.zero_ne_one, Nat.reduceEqDiff, Nat.reduceLeDiff, Nat.reduceLT, Nat.reduceAdd, Nat.reduceSub, Nat.reduceMul, e10, e01, en1, en2, en3, en4, en6, rq1, rq2, rq3, rq4, rq6, rm1, rm2, rm3, rm4, rm6, fz0, fz1, X5_bound_e, X5_isIn_e, Nat.lt_irrefl, Nat.le_refl, Nat.not_lt_zero, Nat.zero_le, n9a, n9b, n9c, n9d, n9e, n9f, n9g, r1, r2, m1, fzp0, ↓reduceIte]
theorem hap_w (hg : ∀ j, j < L → g 0 j = nI (T j)) (hL : L ≤ 96) (hgL : g 1 0 = nI L) (hw : wf T L k) (hk : k < 48) (hG : Gd d) (hb : T (stp T k) = 119) : ∃ o, SB T g k d o := by
  obtain ⟨w1, w2, w3⟩ := hw
  rw [hb] at w3
  obtain ⟨⟨q1, f1⟩, w4⟩ := ck_z w3
  obtain ⟨⟨q2, f2⟩, -⟩ := ck_z w4
  rw [ft57] at f1 f2
  have hI := hG.1
  have hT := hG.2.2.2.1
  have s0 := sgA hg hL hgL w1
  rw [hb] at s0
  have D1 := dgA hg hL hgL q1 f1.1
  have D2 := dgA hg hL hgL q2 f2.1
  obtain ⟨a, ha⟩ : ∃ a, a = T (stp T k + 1) - 48 := ⟨_, rfl⟩
  obtain ⟨e, he⟩ : ∃ e, e = T (stp T k + 1 + 1) - 48 := ⟨_, rfl⟩
  rw [← ha] at D1
  rw [← he] at D2
  have rr : ∀ G, Fk T k G → hs d G 9 k = nI 119 ∧ hs d G 11 (4 * k) = nI (10 * a + e) := by
    rintro G ⟨x1, x2, x3⟩
    rw [hb] at x1 x3
    have y1 := x3.2.1 rfl
    refine ⟨by rw [hs_o (by decide) (by decide), x1], by rw [hs_o (by decide) (by decide), y1, ha, he]⟩
  obtain ⟨n, hn⟩ : ∃ n, n = 10 * a + e := ⟨_, rfl⟩
  rw [← hn] at rr
  have eT := fun Gt => X0_hasTidesLeft (G := Gt) (n := n) hT (show n < 2147483648 by omega)
  by_cases h1 : n < 1
  · refine SB.n (fun Gt => ?_) (fun G hF => ?_)
    · unfold f_X1_happens f_X1_tidesHappen
      simp (disch := omega) only [gi_nI, tn_nI, hs_1, hs_2, hs_3, hs_4, hs_5, hs_6, hs_7, hs_s, hs_m, hs_h, hs_t, lit_nI, nI_add, nI_mul, nI_eq, nI_leI, nI_ltI, nm_j, bd_j, Nat.one_ne_zero, Nat.zero_ne_one, Nat.reduceEqDiff, Nat.reduceLeDiff, Nat.reduceLT, Nat.reduceAdd, Nat.reduceSub, Nat.reduceMul, e10, e01, en1, en2, en3, en4, en6, rq1, rq2, rq3, rq4, rq6, rm1, rm2, rm3, rm4, rm6, fz0, fz1, X5_bound_e, X5_isIn_e, Nat.lt_irrefl, Nat.le_refl, Nat.not_lt_zero, Nat.zero_le, n9a, n9b, n9c, n9d, n9e, n9f, n9g, D1, D2, s0, ← hn, h1, fzp0, ↓reduceIte]
    · obtain ⟨r1, r2⟩ := rr G hF
      unfold f_X5_comes f_X5_comesTides
      simp (disch := omega) only [gi_nI, tn_nI, hs_1, hs_2, hs_3, hs_4, hs_5, hs_6, hs_7, hs_s, hs_m, hs_h, hs_t, lit_nI, nI_add, nI_mul, nI_eq, nI_leI, nI_ltI, nm_j, bd_j, Nat.one_ne_zero, Nat.zero_ne_one, Nat.reduceEqDiff, Nat.reduceLeDiff, Nat.reduceLT, Nat.reduceAdd, Nat.reduceSub, Nat.reduceMul, e10, e01, en1, en2, en3, en4, en6, rq1, rq2, rq3, rq4, rq6, rm1, rm2, rm3, rm4, rm6, fz0, fz1, X5_bound_e, X5_isIn_e, Nat.lt_irrefl, Nat.le_refl, Nat.not_lt_zero, Nat.zero_le, n9a, n9b, n9c, n9d, n9e, n9f, n9g, r1, r2, h1, fzp0, ↓reduceIte]
  · by_cases h2 : 60 < n
    · refine SB.n (fun Gt => ?_) (fun G hF => ?_)
      · unfold f_X1_happens f_X1_tidesHappen
        simp (disch := omega) only [gi_nI, tn_nI, hs_1, hs_2, hs_3, hs_4, hs_5, hs_6, hs_7, hs_s, hs_m, hs_h, hs_t, lit_nI, nI_add, nI_mul, nI_eq, nI_leI, nI_ltI, nm_j, bd_j, Nat.one_ne_zero, Nat.zero_ne_one, Nat.reduceEqDiff, Nat.reduceLeDiff, Nat.reduceLT, Nat.reduceAdd, Nat.reduceSub, Nat.reduceMul, e10, e01, en1, en2, en3, en4, en6, rq1, rq2, rq3, rq4, rq6, rm1, rm2, rm3, rm4, rm6, fz0, fz1, X5_bound_e, X5_isIn_e, Nat.lt_irrefl, Nat.le_refl, Nat.not_lt_zero, Nat.zero_le, n9a, n9b, n9c, n9d, n9e, n9f, n9g, D1, D2, s0, ← hn, h1, h2, fzp0, ↓reduceIte]
      · obtain ⟨r1, r2⟩ := rr G hF
        unfold f_X5_comes f_X5_comesTides
        simp (disch := omega) only [gi_nI, tn_nI, hs_1, hs_2, hs_3, hs_4, hs_5, hs_6, hs_7, hs_s, hs_m, hs_h, hs_t, lit_nI, nI_add, nI_mul, nI_eq, nI_leI, nI_ltI, nm_j, bd_j, Nat.one_ne_zero, Nat.zero_ne_one, Nat.reduceEqDiff, Nat.reduceLeDiff, Nat.reduceLT, Nat.reduceAdd, Nat.reduceSub, Nat.reduceMul, e10, e01, en1, en2, en3, en4, en6, rq1, rq2, rq3, rq4, rq6, rm1, rm2, rm3, rm4, rm6, fz0, fz1, X5_bound_e, X5_isIn_e, Nat.lt_irrefl, Nat.le_refl, Nat.not_lt_zero, Nat.zero_le, n9a, n9b, n9c, n9d, n9e, n9f, n9g, r1, r2, h1, h2, fzp0, ↓reduceIte]
    · by_cases h3 : d 16 3 + n ≤ 999
      · have h4 : ¬ 999 - d 16 3 < n := by omega
        refine SB.y (Gd_tds hG h3) (fun Gt => ?_) (fun G hF => ?_)
        · have m1 := eT Gt
          rw [if_neg h4] at m1
          have m2 := X0_passTides (G := Gt) (n := n) hI (by omega) (by omega)
          unfold f_X1_happens f_X1_tidesHappen
          simp (disch := omega) only [gi_nI, tn_nI, hs_1, hs_2, hs_3, hs_4, hs_5, hs_6, hs_7, hs_s, hs_m, hs_h, hs_t, lit_nI, nI_add, nI_mul, nI_eq, nI_leI, nI_ltI, nm_j, bd_j, Nat.one_ne_zero, Nat.zero_ne_one, Nat.reduceEqDiff, Nat.reduceLeDiff, Nat.reduceLT, Nat.reduceAdd, Nat.reduceSub, Nat.reduceMul, e10, e01, en1, en2, en3, en4, en6, rq1, rq2, rq3, rq4, rq6, rm1, rm2, rm3, rm4, rm6, fz0, fz1, X5_bound_e, X5_isIn_e, Nat.lt_irrefl, Nat.le_refl, Nat.not_lt_zero, Nat.zero_le, n9a, n9b, n9c, n9d, n9e, n9f, n9g, D1, D2, s0, ← hn, h1, h2, m1, m2, fzp1, ↓reduceIte]
        · obtain ⟨r1, r2⟩ := rr G hF
          have m2 := X5_goes (G := G) (n := n) hI (by omega) (by omega)
          unfold f_X5_comes f_X5_comesTides
          simp (disch := omega) only [gi_nI, tn_nI, hs_1, hs_2, hs_3, hs_4, hs_5, hs_6, hs_7, hs_s, hs_m, hs_h, hs_t, lit_nI, nI_add, nI_mul, nI_eq, nI_leI, nI_ltI, nm_j, bd_j, Nat.one_ne_zero, Nat.zero_ne_one, Nat.reduceEqDiff, Nat.reduceLeDiff, Nat.reduceLT, Nat.reduceAdd, Nat.reduceSub, Nat.reduceMul, e10, e01, en1, en2, en3, en4, en6, rq1, rq2, rq3, rq4, rq6, rm1, rm2, rm3, rm4, rm6, fz0, fz1, X5_bound_e, X5_isIn_e, Nat.lt_irrefl, Nat.le_refl, Nat.not_lt_zero, Nat.zero_le, n9a, n9b, n9c, n9d, n9e, n9f, n9g, r1, r2, h1, h2, h3, m2, fzp1, ↓reduceIte]
      · have h4 : 999 - d 16 3 < n := by omega
        refine SB.n (fun Gt => ?_) (fun G hF => ?_)
        · have m1 := eT Gt
          rw [if_pos h4] at m1
          unfold f_X1_happens f_X1_tidesHappen
          simp (disch := omega) only [gi_nI, tn_nI, hs_1, hs_2, hs_3, hs_4, hs_5, hs_6, hs_7, hs_s, hs_m, hs_h, hs_t, lit_nI, nI_add, nI_mul, nI_eq, nI_leI, nI_ltI, nm_j, bd_j, Nat.one_ne_zero, Nat.zero_ne_one, Nat.reduceEqDiff, Nat.reduceLeDiff, Nat.reduceLT, Nat.reduceAdd, Nat.reduceSub, Nat.reduceMul, e10, e01, en1, en2, en3, en4, en6, rq1, rq2, rq3, rq4, rq6, rm1, rm2, rm3, rm4, rm6, fz0, fz1, X5_bound_e, X5_isIn_e, Nat.lt_irrefl, Nat.le_refl, Nat.not_lt_zero, Nat.zero_le, n9a, n9b, n9c, n9d, n9e, n9f, n9g, D1, D2, s0, ← hn, h1, h2, m1, fzp0, ↓reduceIte]
        · obtain ⟨r1, r2⟩ := rr G hF
          unfold f_X5_comes f_X5_comesTides
          simp (disch := omega) only [gi_nI, tn_nI, hs_1, hs_2, hs_3, hs_4, hs_5, hs_6, hs_7, hs_s, hs_m, hs_h, hs_t, lit_nI, nI_add, nI_mul, nI_eq, nI_leI, nI_ltI, nm_j, bd_j, Nat.one_ne_zero, Nat.zero_ne_one, Nat.reduceEqDiff, Nat.reduceLeDiff, Nat.reduceLT, Nat.reduceAdd, Nat.reduceSub, Nat.reduceMul, e10, e01, en1, en2, en3, en4, en6, rq1, rq2, rq3, rq4, rq6, rm1, rm2, rm3, rm4, rm6, fz0, fz1, X5_bound_e, X5_isIn_e, Nat.lt_irrefl, Nat.le_refl, Nat.not_lt_zero, Nat.zero_le, n9a, n9b, n9c, n9d, n9e, n9f, n9g, r1, r2, h1, h2, h3, fzp0, ↓reduceIte]
theorem hap_m (hg : ∀ j, j < L → g 0 j = nI (T j)) (hT2 : ∀ j, T j < 256) (hL : L ≤ 96) (hgL : g 1 0 = nI L) (hw : wf T L k) (hk : k < 48) (hG : Gd d) (hb : T (stp T k) = 109) : ∃ o, SB T g k d o := by
  obtain ⟨w1, w2, w3⟩ := hw
  rw [hb] at w3
  obtain ⟨⟨q1, f1⟩, w4⟩ := ck_z w3
  obtain ⟨⟨q2, f2⟩, w5⟩ := ck_z w4
  obtain ⟨⟨q3, f3⟩, w6⟩ := ck_z w5
  obtain ⟨⟨q4, f4⟩, w7⟩ := ck_z w6
  rw [ft107] at f1
  rw [ft57] at f2 f3 f4
  have hI := hG.1
  have hN := hI.2.2.1
  have hN5 := hI.2.1
  have s0 := sgA hg hL hgL w1
  rw [hb] at s0
  have s1 := sgA hg hL hgL q1
  have b1 : 48 ≤ T (stp T k + 1) := by
    unfold kN at f1
    by_cases z : T (stp T k + 1) < 48
    · exfalso
      rw [if_neg (by omega), if_neg (by omega), if_neg (by omega), if_neg (by omega), if_neg (by omega), if_neg (by omega)] at f1
      omega
    · omega
  have D1 := dgA hg hL hgL q1 b1
  have D2 := dgA hg hL hgL q2 f2.1
  have D3 := dgA hg hL hgL q3 f3.1
  have D4 := dgA hg hL hgL q4 f4.1
  have ek := l_kin (T (stp T k + 1)) (hT2 _)
  rw [if_pos f1] at ek
  obtain ⟨a, ha⟩ : ∃ a, a = kN (T (stp T k + 1)) := ⟨_, rfl⟩
  obtain ⟨u, hu⟩ : ∃ u, u = T (stp T k + 1 + 1) - 48 := ⟨_, rfl⟩
  obtain ⟨v, hv⟩ : ∃ v, v = T (stp T k + 1 + 1 + 1) - 48 := ⟨_, rfl⟩
  obtain ⟨x, hx⟩ : ∃ x, x = T (stp T k + 1 + 1 + 1 + 1) - 48 := ⟨_, rfl⟩
  rw [← ha] at ek f1
  rw [← hu] at D2
  rw [← hv] at D3
  rw [← hx] at D4
  have rr : ∀ G, Fk T k G → hs d G 9 k = nI 109 ∧ G 11 (4 * k) = nI a ∧ G 11 (4 * k + 1) = nI u ∧ G 11 (4 * k + 2) = nI v ∧ G 11 (4 * k + 3) = nI x := by
    rintro G ⟨x1, x2, x3⟩
    rw [hb] at x1 x3
    obtain ⟨y1, y2, y3, y4⟩ := x3.1 rfl
    refine ⟨by rw [hs_o (by decide) (by decide), x1], by rw [y1, ha], by rw [y2, hu], by rw [y3, hv], by rw [y4, hx]⟩
  have x9 : x < 2147483648 := by omega
  by_cases h1 : d 16 1 < 8
  · have h1' : ¬ 8 ≤ d 16 1 := by omega
    have h1'' : ¬ d 16 1 = 8 := by omega
    by_cases h2 : x < d 16 0
    · have hG1 : Gd (gu d 4 (d 16 1) a) := Gd_gu4 hG (by omega) h1
      have hG2 : Gd (gu (gu d 4 (d 16 1) a) 5 (d 16 1) u) := Gd_gu hG1 (by omega) (by omega) (vd7 (by decide) (by decide) h1)
      have hG3 : Gd (gu (gu (gu d 4 (d 16 1) a) 5 (d 16 1) u) 6 (d 16 1) v) := Gd_gu hG2 (by omega) (by omega) (vd7 (by decide) (by decide) h1)
      have o1 : gu d 4 (d 16 1) a 16 1 = d 16 1 := gu_a (by decide)
      have o2 : gu (gu d 4 (d 16 1) a) 5 (d 16 1) u 16 1 = d 16 1 := by rw [gu_a (by decide), o1]
      have o3 : gu (gu (gu d 4 (d 16 1) a) 5 (d 16 1) u) 6 (d 16 1) v 16 1 = d 16 1 := by rw [gu_a (by decide), o2]
      have o30 : gu (gu (gu d 4 (d 16 1) a) 5 (d 16 1) u) 6 (d 16 1) v 16 0 = d 16 0 := by rw [gu_a (by decide), gu_a (by decide), gu_a (by decide)]
      have hG4 : Gd (gu (gu (gu (gu d 4 (d 16 1) a) 5 (d 16 1) u) 6 (d 16 1) v) 7 (d 16 1) x) := Gd_gu7 hG3 (by rw [o30]; exact h2) h1
      have o4 : gu (gu (gu (gu d 4 (d 16 1) a) 5 (d 16 1) u) 6 (d 16 1) v) 7 (d 16 1) x 16 1 = d 16 1 := by rw [gu_a (by decide), o3]
      have hG5 := Gd_men hG4 (by rw [o4]; exact h1) (by rw [o4, gu_s, gu_a (by decide), o30]; exact h2)
      rw [o4] at hG5
      refine SB.y hG5 (fun Gt => ?_) (fun G hF => ?_)
      · have m2 := X0_hasShip (G := Gt) hI x9
        rw [if_pos h2] at m2
        unfold f_X1_happens f_X0_addMan
        simp (disch := omega) only [gi_nI, tn_nI, hs_1, hs_2, hs_3, hs_4, hs_5, hs_6, hs_7, hs_s, hs_m, hs_h, hs_t, lit_nI, nI_add, nI_mul, nI_eq, nI_leI, nI_ltI, nm_j, bd_j, Nat.one_ne_zero, Nat.zero_ne_one, Nat.reduceEqDiff, Nat.reduceLeDiff, Nat.reduceLT, Nat.reduceAdd, Nat.reduceSub, Nat.reduceMul, e10, e01, en1, en2, en3, en4, en6, rq1, rq2, rq3, rq4, rq6, rm1, rm2, rm3, rm4, rm6, fz0, fz1, X5_bound_e, X5_isIn_e, Nat.lt_irrefl, Nat.le_refl, Nat.not_lt_zero, Nat.zero_le, n9a, n9b, n9c, n9d, n9e, n9f, n9g, D1, D2, D3, D4, s0, s1, ek, h1', m2, su_hs, o1, o2, o3, o4, su_hs16, fzp1, ↓reduceIte]
      · obtain ⟨r1, r2, r3, r4, r5⟩ := rr G hF
        have m2 := X5_isShip (G := G) hI x9
        rw [if_pos h2] at m2
        have rd : ∀ (c : G2) j, hs c G 11 j = G 11 j := fun c j => by rw [hs_o (by decide) (by decide)]
        unfold f_X5_comes f_X5_comesMan
        simp (disch := omega) only [gi_nI, tn_nI, hs_1, hs_2, hs_3, hs_4, hs_5, hs_6, hs_7, hs_s, hs_m, hs_h, hs_t, lit_nI, nI_add, nI_mul, nI_eq, nI_leI, nI_ltI, nm_j, bd_j, Nat.one_ne_zero, Nat.zero_ne_one, Nat.reduceEqDiff, Nat.reduceLeDiff, Nat.reduceLT, Nat.reduceAdd, Nat.reduceSub, Nat.reduceMul, e10, e01, en1, en2, en3, en4, en6, rq1, rq2, rq3, rq4, rq6, rm1, rm2, rm3, rm4, rm6, fz0, fz1, X5_bound_e, X5_isIn_e, Nat.lt_irrefl, Nat.le_refl, Nat.not_lt_zero, Nat.zero_le, n9a, n9b, n9c, n9d, n9e, n9f, n9g, r1, rd, r2, r3, r4, r5, h1'', m2, su_hs, o1, o2, o3, o4, su_hs16, fzp1, ↓reduceIte]
    · refine SB.n (fun Gt => ?_) (fun G hF => ?_)
      · have m2 := X0_hasShip (G := Gt) hI x9
        rw [if_neg h2] at m2
        unfold f_X1_happens f_X0_addMan
        simp (disch := omega) only [gi_nI, tn_nI, hs_1, hs_2, hs_3, hs_4, hs_5, hs_6, hs_7, hs_s, hs_m, hs_h, hs_t, lit_nI, nI_add, nI_mul, nI_eq, nI_leI, nI_ltI, nm_j, bd_j, Nat.one_ne_zero, Nat.zero_ne_one, Nat.reduceEqDiff, Nat.reduceLeDiff, Nat.reduceLT, Nat.reduceAdd, Nat.reduceSub, Nat.reduceMul, e10, e01, en1, en2, en3, en4, en6, rq1, rq2, rq3, rq4, rq6, rm1, rm2, rm3, rm4, rm6, fz0, fz1, X5_bound_e, X5_isIn_e, Nat.lt_irrefl, Nat.le_refl, Nat.not_lt_zero, Nat.zero_le, n9a, n9b, n9c, n9d, n9e, n9f, n9g, D1, D2, D3, D4, s0, s1, ek, h1', m2, fzp0, ↓reduceIte]
      · obtain ⟨r1, r2, r3, r4, r5⟩ := rr G hF
        have m2 := X5_isShip (G := G) hI x9
        rw [if_neg h2] at m2
        have rd : ∀ (c : G2) j, hs c G 11 j = G 11 j := fun c j => by rw [hs_o (by decide) (by decide)]
        unfold f_X5_comes f_X5_comesMan
        simp (disch := omega) only [gi_nI, tn_nI, hs_1, hs_2, hs_3, hs_4, hs_5, hs_6, hs_7, hs_s, hs_m, hs_h, hs_t, lit_nI, nI_add, nI_mul, nI_eq, nI_leI, nI_ltI, nm_j, bd_j, Nat.one_ne_zero, Nat.zero_ne_one, Nat.reduceEqDiff, Nat.reduceLeDiff, Nat.reduceLT, Nat.reduceAdd, Nat.reduceSub, Nat.reduceMul, e10, e01, en1, en2, en3, en4, en6, rq1, rq2, rq3, rq4, rq6, rm1, rm2, rm3, rm4, rm6, fz0, fz1, X5_bound_e, X5_isIn_e, Nat.lt_irrefl, Nat.le_refl, Nat.not_lt_zero, Nat.zero_le, n9a, n9b, n9c, n9d, n9e, n9f, n9g, r1, rd, r2, r3, r4, r5, m2, fzp0, ↓reduceIte]
  · have h1' : 8 ≤ d 16 1 := by omega
    have h1'' : d 16 1 = 8 := by omega
    refine SB.n (fun Gt => ?_) (fun G hF => ?_)
    · unfold f_X1_happens f_X0_addMan
      simp (disch := omega) only [gi_nI, tn_nI, hs_1, hs_2, hs_3, hs_4, hs_5, hs_6, hs_7, hs_s, hs_m, hs_h, hs_t, lit_nI, nI_add, nI_mul, nI_eq, nI_leI, nI_ltI, nm_j, bd_j, Nat.one_ne_zero, Nat.zero_ne_one, Nat.reduceEqDiff, Nat.reduceLeDiff, Nat.reduceLT, Nat.reduceAdd, Nat.reduceSub, Nat.reduceMul, e10, e01, en1, en2, en3, en4, en6, rq1, rq2, rq3, rq4, rq6, rm1, rm2, rm3, rm4, rm6, fz0, fz1, X5_bound_e, X5_isIn_e, Nat.lt_irrefl, Nat.le_refl, Nat.not_lt_zero, Nat.zero_le, n9a, n9b, n9c, n9d, n9e, n9f, n9g, D1, D2, D3, D4, s0, s1, ek, h1', fzp0, ↓reduceIte]
    · obtain ⟨r1, r2, r3, r4, r5⟩ := rr G hF
      have m2 := X5_isShip (G := G) hI x9
      have rd : ∀ (c : G2) j, hs c G 11 j = G 11 j := fun c j => by rw [hs_o (by decide) (by decide)]
      unfold f_X5_comes f_X5_comesMan
      by_cases h2 : x < d 16 0
      · rw [if_pos h2] at m2
        simp (disch := omega) only [gi_nI, tn_nI, hs_1, hs_2, hs_3, hs_4, hs_5, hs_6, hs_7, hs_s, hs_m, hs_h, hs_t, lit_nI, nI_add, nI_mul, nI_eq, nI_leI, nI_ltI, nm_j, bd_j, Nat.one_ne_zero, Nat.zero_ne_one, Nat.reduceEqDiff, Nat.reduceLeDiff, Nat.reduceLT, Nat.reduceAdd, Nat.reduceSub, Nat.reduceMul, e10, e01, en1, en2, en3, en4, en6, rq1, rq2, rq3, rq4, rq6, rm1, rm2, rm3, rm4, rm6, fz0, fz1, X5_bound_e, X5_isIn_e, Nat.lt_irrefl, Nat.le_refl, Nat.not_lt_zero, Nat.zero_le, n9a, n9b, n9c, n9d, n9e, n9f, n9g, r1, rd, r2, r3, r4, r5, h1'', m2, fzp0, ↓reduceIte]
      · rw [if_neg h2] at m2
        simp (disch := omega) only [gi_nI, tn_nI, hs_1, hs_2, hs_3, hs_4, hs_5, hs_6, hs_7, hs_s, hs_m, hs_h, hs_t, lit_nI, nI_add, nI_mul, nI_eq, nI_leI, nI_ltI, nm_j, bd_j, Nat.one_ne_zero, Nat.zero_ne_one, Nat.reduceEqDiff, Nat.reduceLeDiff, Nat.reduceLT, Nat.reduceAdd, Nat.reduceSub, Nat.reduceMul, e10, e01, en1, en2, en3, en4, en6, rq1, rq2, rq3, rq4, rq6, rm1, rm2, rm3, rm4, rm6, fz0, fz1, X5_bound_e, X5_isIn_e, Nat.lt_irrefl, Nat.le_refl, Nat.not_lt_zero, Nat.zero_le, n9a, n9b, n9c, n9d, n9e, n9f, n9g, r1, rd, r2, r3, r4, r5, h1'', m2, fzp0, ↓reduceIte]
theorem hap_all (hg : ∀ j, j < L → g 0 j = nI (T j)) (hT2 : ∀ j, T j < 256) (hL : L ≤ 96) (hgL : g 1 0 = nI L) (hw : wf T L k) (hk : k < 48) (hG : Gd d) : ∃ o, SB T g k d o := by
  rcases opn_of hw.2.1 with h | h | h | h | h | h
  · exact hap_b hg hL hgL hw hk hG h
  · exact hap_m hg hT2 hL hgL hw hk hG h
  · exact hap_s hg hL hgL hw hk hG h
  · exact hap_t hg hL hgL hw hk hG h
  · exact hap_v hg hL hgL hw hk hG h
  · exact hap_w hg hL hgL hw hk hG h
end STB
