/-! what stands behind a statement's first letter -/
/-- what is told of the statement of the letter b whose first letter stands at p0, at 4 k -/
def tv (T : Nat → Nat) (b p k : Nat) (G : St) : Prop := (b = 109 → G 11 (4 * k) = nI (kN (T p)) ∧ G 11 (4 * k + 1) = nI (T (p + 1) - 48) ∧ G 11 (4 * k + 2) = nI (T (p + 2) - 48) ∧ G 11 (4 * k + 3) = nI (T (p + 3) - 48)) ∧ (b = 119 → G 11 (4 * k) = nI (10 * (T p - 48) + (T (p + 1) - 48))) ∧ (b = 98 ∨ b = 118 → G 11 (4 * k) = nI (T p - 48) ∧ G 11 (4 * k + 1) = nI (T (p + 1) - 48)) ∧ (b = 115 ∨ b = 116 → G 11 (4 * k) = nI (T p - 48))
def bdy (b : Nat) : List Nat := if b = 109 then [107, 57, 57, 57] else if b = 115 then [57] else if b = 116 then [57] else [57, 57]
def RA (T : Nat → Nat) (L k : Nat) (c : G2) (G : St) (b p : Nat) (X : Option (Int32 × St)) : Prop := ∃ G', Pg k G G' ∧ ((∃ e, e ≤ L ∧ ck T L (bdy b) p = some e ∧ X = some (nI 0, hs c G') ∧ G' 16 5 = nI e) ∨ (ck T L (bdy b) p = none ∧ X = some (nI 1, hs c G') ∧ G' 16 5 = nI (p + (bdy b).length) ∧ tv T b p k G'))
section RAs
variable {c : G2} {G : St} {T : Nat → Nat} {L p k : Nat}
theorem ra_1 (hT : Tp T L G) (hL : L ≤ 96) (hp : G 16 5 = nI p) (hpL : p ≤ L) (hT2 : ∀ j, T j < 256) (hk : k < 48) {b : Nat} (hb : b = 115 ∨ b = 116) : RA T L k c G b p (f_X5_readsDigits (hs c G) (nI (4 * k)) (nI 1)) := by
  have hbd : bdy b = [57] := by rcases hb with rfl | rfl <;> rfl
  unfold RA
  rw [hbd]
  by_cases h : dg T L p
  · refine ⟨_, (Pg.s5.tr (Pg.s11 (Nat.le_refl _) (by omega))), Or.inr ⟨?_, rd1_y hT hL hp hT2 (by omega) h, ?_, ?_⟩⟩
    · rw [ck_y (dg_e.mp h)]; rfl
    · rw [su_ne (by omega), su_at]; rfl
    · refine ⟨by omega, by omega, by omega, fun _ => su_at⟩
  · refine ⟨G, Pg.rf, Or.inl ⟨p, hpL, ck_n (fun z => h (dg_e.mpr z)), rd1_n hT hL hp (by omega) hT2 h, hp⟩⟩
theorem ra_2 (hT : Tp T L G) (hL : L ≤ 96) (hp : G 16 5 = nI p) (hpL : p ≤ L) (hT2 : ∀ j, T j < 256) (hk : k < 48) : RA T L k c G 119 p (f_X5_readsDigits (hs c G) (nI (4 * k)) (nI 2)) := by
  have hbd : bdy 119 = [57, 57] := rfl
  unfold RA
  rw [hbd]
  by_cases h : dg T L p
  · rw [ck_y (dg_e.mp h)]
    have hp1 := h.1
    by_cases h2 : dg T L (p + 1)
    · refine ⟨_, (Pg.s5.tr (Pg.s11 (Nat.le_refl _) (by omega))), Or.inr ⟨?_, rd2_yy hT hL hp hT2 (by omega) h h2, ?_, ?_⟩⟩
      · rw [ck_y (dg_e.mp h2)]; rfl
      · rw [su_ne (by omega), su_at]; rfl
      · refine ⟨by omega, fun _ => su_at, by omega, by omega⟩
    · exact ⟨_, Pg.s5, Or.inl ⟨p + 1, by omega, ck_n (fun z => h2 (dg_e.mpr z)), rd2_yn hT hL hp hT2 h h2, su_at⟩⟩
  · refine ⟨G, Pg.rf, Or.inl ⟨p, hpL, ck_n (fun z => h (dg_e.mpr z)), rd2_n hT hL hp (by omega) hT2 h, hp⟩⟩
theorem ra_3 (hT : Tp T L G) (hL : L ≤ 96) (hp : G 16 5 = nI p) (hpL : p ≤ L) (hT2 : ∀ j, T j < 256) (hk : k < 48) {b : Nat} (hb : b = 98 ∨ b = 118) : RA T L k c G b p (f_X5_readsAll (hs c G) (nI b) (nI (4 * k))) := by
  have hbd : bdy b = [57, 57] := by rcases hb with rfl | rfl <;> rfl
  have red : f_X5_readsAll (hs c G) (nI b) (nI (4 * k)) = fzp (bd (f_X5_readsDigits (hs c G) (nI (4 * k)) (nI 1)) fun a_9 => (if a_9.1 = 0 then (some ((0 : Int32), a_9.2)) else (bd (f_X5_readsDigits a_9.2 (nI (4 * k) + (1 : Int32)) (nI 1)) fun a_11 => (if a_11.1 = 0 then (some ((0 : Int32), a_11.2)) else (some ((1 : Int32), a_11.2)))))) := by
    unfold f_X5_readsAll
    rcases hb with rfl | rfl <;> rfl
  unfold RA
  rw [hbd, red]
  by_cases h : dg T L p
  · rw [ck_y (dg_e.mp h), rd1_y hT hL hp hT2 (by omega) h]
    have hp1 := h.1
    obtain ⟨G1, hG1⟩ : ∃ G1, G1 = su (su G 16 5 (nI (p + 1))) 11 (4 * k) (nI (T p - 48)) := ⟨_, rfl⟩
    have hPg1 : Pg k G G1 := by rw [hG1]; exact Pg.s5.tr (Pg.s11 (Nat.le_refl _) (by omega))
    have hp' : G1 16 5 = nI (p + 1) := by rw [hG1, su_ne (by omega), su_at]
    have ht0 : G1 11 (4 * k) = nI (T p - 48) := by rw [hG1, su_at]
    rw [← hG1]
    by_cases h2 : dg T L (p + 1)
    · have e := rd1_y (c := c) (P := 4 * k + 1) (hT.pg hPg1) hL hp' hT2 (by omega) h2
      refine ⟨su (su G1 16 5 (nI (p + 1 + 1))) 11 (4 * k + 1) (nI (T (p + 1) - 48)), hPg1.tr (Pg.s5.tr (Pg.s11 (P := 4 * k + 1) (by omega) (by omega))), Or.inr ⟨?_, ?_, ?_, ?_⟩⟩
      · rw [ck_y (dg_e.mp h2)]; rfl
      · simp (disch := omega) only [gi_nI, tn_nI, hs_1, hs_2, hs_3, hs_4, hs_5, hs_6, hs_7, hs_s, hs_m, hs_h, hs_t, lit_nI, nI_add, nI_mul, nI_eq, nI_leI, nI_ltI, nm_j, bd_j, Nat.one_ne_zero, Nat.zero_ne_one, Nat.reduceEqDiff, Nat.reduceLeDiff, Nat.reduceLT, Nat.reduceAdd, Nat.reduceSub, Nat.reduceMul, e10, e01, en1, en2, en3, en4, en6, rq1, rq2, rq3, rq4, rq6, rm1, rm2, rm3, rm4, rm6, fz0, fz1, X5_bound_e, X5_isIn_e, Nat.lt_irrefl, Nat.le_refl, Nat.not_lt_zero, Nat.zero_le, n9a, n9b, n9c, n9d, n9e, n9f, n9g, e, fzp1, ↓reduceIte]
      · rw [su_ne (by omega), su_at]; rfl
      · refine ⟨by omega, by omega, fun _ => ⟨?_, su_at⟩, by omega⟩
        rw [su_ne (by omega), su_ne (by omega), ht0]
    · have e := rd1_n (c := c) (P := 4 * k + 1) (hT.pg hPg1) hL hp' (by omega) hT2 h2
      refine ⟨G1, hPg1, Or.inl ⟨p + 1, by omega, ck_n (fun z => h2 (dg_e.mpr z)), ?_, hp'⟩⟩
      simp (disch := omega) only [gi_nI, tn_nI, hs_1, hs_2, hs_3, hs_4, hs_5, hs_6, hs_7, hs_s, hs_m, hs_h, hs_t, lit_nI, nI_add, nI_mul, nI_eq, nI_leI, nI_ltI, nm_j, bd_j, Nat.one_ne_zero, Nat.zero_ne_one, Nat.reduceEqDiff, Nat.reduceLeDiff, Nat.reduceLT, Nat.reduceAdd, Nat.reduceSub, Nat.reduceMul, e10, e01, en1, en2, en3, en4, en6, rq1, rq2, rq3, rq4, rq6, rm1, rm2, rm3, rm4, rm6, fz0, fz1, X5_bound_e, X5_isIn_e, Nat.lt_irrefl, Nat.le_refl, Nat.not_lt_zero, Nat.zero_le, n9a, n9b, n9c, n9d, n9e, n9f, n9g, e, fzp0, ↓reduceIte]
  · have e := rd1_n (c := c) (P := 4 * k) hT hL hp (by omega) hT2 h
    refine ⟨G, Pg.rf, Or.inl ⟨p, hpL, ck_n (fun z => h (dg_e.mpr z)), ?_, hp⟩⟩
    simp (disch := omega) only [gi_nI, tn_nI, hs_1, hs_2, hs_3, hs_4, hs_5, hs_6, hs_7, hs_s, hs_m, hs_h, hs_t, lit_nI, nI_add, nI_mul, nI_eq, nI_leI, nI_ltI, nm_j, bd_j, Nat.one_ne_zero, Nat.zero_ne_one, Nat.reduceEqDiff, Nat.reduceLeDiff, Nat.reduceLT, Nat.reduceAdd, Nat.reduceSub, Nat.reduceMul, e10, e01, en1, en2, en3, en4, en6, rq1, rq2, rq3, rq4, rq6, rm1, rm2, rm3, rm4, rm6, fz0, fz1, X5_bound_e, X5_isIn_e, Nat.lt_irrefl, Nat.le_refl, Nat.not_lt_zero, Nat.zero_le, n9a, n9b, n9c, n9d, n9e, n9f, n9g, e, fzp0, ↓reduceIte]
theorem ra_4 (hT : Tp T L G) (hL : L ≤ 96) (hp : G 16 5 = nI p) (hpL : p ≤ L) (hT2 : ∀ j, T j < 256) (hk : k < 48) : RA T L k c G 109 p (f_X5_readsMan (hs c G) (nI (4 * k))) := by
  have hbd : bdy 109 = [107, 57, 57, 57] := rfl
  unfold RA
  rw [hbd]
  have en := X5_nx (c := c) hT hL hp (by omega)
  have u1 : ∀ v, su (hs c G) 11 (4 * k) v = hs c (su G 11 (4 * k) v) := fun v => su_hso (by decide) (by decide)
  have r1 : ∀ v, hs c (su G 11 (4 * k) v) 11 (4 * k) = v := fun v => by rw [hs_o (by decide) (by decide), su_at]
  unfold f_X5_readsMan
  by_cases h0 : p < L ∧ kN (T p) < 6
  · obtain ⟨h1, h2⟩ := h0
    rw [if_pos h1] at en
    have ek := l_k5 (T p) (hT2 p)
    rw [if_pos h2] at ek
    rw [ck_y (show p < L ∧ ft (T p) 107 = true from ⟨h1, ft107.mpr h2⟩)]
    have r5 : hs c (su G 11 (4 * k) (nI (kN (T p)))) 16 5 = nI p := by rw [hs_16 (by omega), su_ne (by omega), hp]
    have u2 : su (hs c (su G 11 (4 * k) (nI (kN (T p))))) 16 5 (nI (p + 1)) = hs c (su (su G 11 (4 * k) (nI (kN (T p)))) 16 5 (nI (p + 1))) := su_hs16o (by decide)
    obtain ⟨G1, hG1⟩ : ∃ G1, G1 = su (su G 11 (4 * k) (nI (kN (T p)))) 16 5 (nI (p + 1)) := ⟨_, rfl⟩
    have hPg1 : Pg k G G1 := by rw [hG1]; exact (Pg.s11 (Nat.le_refl _) (by omega)).tr Pg.s5
    have hp1 : G1 16 5 = nI (p + 1) := by rw [hG1, su_at]
    have ht0 : G1 11 (4 * k) = nI (kN (T p)) := by rw [hG1, su_ne (by omega), su_at]
    rw [← hG1] at u2
    simp (disch := omega) only [gi_nI, tn_nI, hs_1, hs_2, hs_3, hs_4, hs_5, hs_6, hs_7, hs_s, hs_m, hs_h, hs_t, lit_nI, nI_add, nI_mul, nI_eq, nI_leI, nI_ltI, nm_j, bd_j, Nat.one_ne_zero, Nat.zero_ne_one, Nat.reduceEqDiff, Nat.reduceLeDiff, Nat.reduceLT, Nat.reduceAdd, Nat.reduceSub, Nat.reduceMul, e10, e01, en1, en2, en3, en4, en6, rq1, rq2, rq3, rq4, rq6, rm1, rm2, rm3, rm4, rm6, fz0, fz1, X5_bound_e, X5_isIn_e, Nat.lt_irrefl, Nat.le_refl, Nat.not_lt_zero, Nat.zero_le, n9a, n9b, n9c, n9d, n9e, n9f, n9g, en, ek, u1, r1, r5, u2, ↓reduceIte]
    by_cases d1 : dg T L (p + 1)
    · have e1 := rd1_y (c := c) (P := 4 * k + 1) (hT.pg hPg1) hL hp1 hT2 (by omega) d1
      have l1 := d1.1
      obtain ⟨G2', hG2⟩ : ∃ G2', G2' = su (su G1 16 5 (nI (p + 1 + 1))) 11 (4 * k + 1) (nI (T (p + 1) - 48)) := ⟨_, rfl⟩
      have hPg2 : Pg k G G2' := by rw [hG2]; exact hPg1.tr (Pg.s5.tr (Pg.s11 (by omega) (by omega)))
      have hp2 : G2' 16 5 = nI (p + 1 + 1) := by rw [hG2, su_ne (by omega), su_at]
      have ht02 : G2' 11 (4 * k) = nI (kN (T p)) := by rw [hG2, su_ne (by omega), su_ne (by omega), ht0]
      have ht12 : G2' 11 (4 * k + 1) = nI (T (p + 1) - 48) := by rw [hG2, su_at]
      rw [← hG2] at e1
      rw [ck_y (dg_e.mp d1)]
      by_cases d2 : dg T L (p + 1 + 1)
      · have e2 := rd1_y (c := c) (P := 4 * k + 2) (hT.pg hPg2) hL hp2 hT2 (by omega) d2
        have l2 := d2.1
        obtain ⟨G3, hG3⟩ : ∃ G3, G3 = su (su G2' 16 5 (nI (p + 1 + 1 + 1))) 11 (4 * k + 2) (nI (T (p + 1 + 1) - 48)) := ⟨_, rfl⟩
        have hPg3 : Pg k G G3 := by rw [hG3]; exact hPg2.tr (Pg.s5.tr (Pg.s11 (by omega) (by omega)))
        have hp3 : G3 16 5 = nI (p + 1 + 1 + 1) := by rw [hG3, su_ne (by omega), su_at]
        have ht03 : G3 11 (4 * k) = nI (kN (T p)) := by rw [hG3, su_ne (by omega), su_ne (by omega), ht02]
        have ht13 : G3 11 (4 * k + 1) = nI (T (p + 1) - 48) := by rw [hG3, su_ne (by omega), su_ne (by omega), ht12]
        have ht23 : G3 11 (4 * k + 2) = nI (T (p + 1 + 1) - 48) := by rw [hG3, su_at]
        rw [← hG3] at e2
        rw [ck_y (dg_e.mp d2)]
        by_cases d3 : dg T L (p + 1 + 1 + 1)
        · have e3 := rd1_y (c := c) (P := 4 * k + 3) (hT.pg hPg3) hL hp3 hT2 (by omega) d3
          refine ⟨su (su G3 16 5 (nI (p + 1 + 1 + 1 + 1))) 11 (4 * k + 3) (nI (T (p + 1 + 1 + 1) - 48)), hPg3.tr (Pg.s5.tr (Pg.s11 (P := 4 * k + 3) (by omega) (by omega))), Or.inr ⟨?_, ?_, ?_, ?_⟩⟩
          · rw [ck_y (dg_e.mp d3)]; rfl
          · simp (disch := omega) only [gi_nI, tn_nI, hs_1, hs_2, hs_3, hs_4, hs_5, hs_6, hs_7, hs_s, hs_m, hs_h, hs_t, lit_nI, nI_add, nI_mul, nI_eq, nI_leI, nI_ltI, nm_j, bd_j, Nat.one_ne_zero, Nat.zero_ne_one, Nat.reduceEqDiff, Nat.reduceLeDiff, Nat.reduceLT, Nat.reduceAdd, Nat.reduceSub, Nat.reduceMul, e10, e01, en1, en2, en3, en4, en6, rq1, rq2, rq3, rq4, rq6, rm1, rm2, rm3, rm4, rm6, fz0, fz1, X5_bound_e, X5_isIn_e, Nat.lt_irrefl, Nat.le_refl, Nat.not_lt_zero, Nat.zero_le, n9a, n9b, n9c, n9d, n9e, n9f, n9g, e1, e2, e3, fzp1, ↓reduceIte]
          · rw [su_ne (by omega), su_at]; rfl
          · refine ⟨fun _ => ⟨?_, ?_, ?_, su_at⟩, by omega, by omega, by omega⟩
            · rw [su_ne (by omega), su_ne (by omega), ht03]
            · rw [su_ne (by omega), su_ne (by omega), ht13]
            · rw [su_ne (by omega), su_ne (by omega), ht23]
        · have e3 := rd1_n (c := c) (P := 4 * k + 3) (hT.pg hPg3) hL hp3 (by omega) hT2 d3
          refine ⟨G3, hPg3, Or.inl ⟨p + 1 + 1 + 1, by omega, ck_n (fun z => d3 (dg_e.mpr z)), ?_, hp3⟩⟩
          simp (disch := omega) only [gi_nI, tn_nI, hs_1, hs_2, hs_3, hs_4, hs_5, hs_6, hs_7, hs_s, hs_m, hs_h, hs_t, lit_nI, nI_add, nI_mul, nI_eq, nI_leI, nI_ltI, nm_j, bd_j, Nat.one_ne_zero, Nat.zero_ne_one, Nat.reduceEqDiff, Nat.reduceLeDiff, Nat.reduceLT, Nat.reduceAdd, Nat.reduceSub, Nat.reduceMul, e10, e01, en1, en2, en3, en4, en6, rq1, rq2, rq3, rq4, rq6, rm1, rm2, rm3, rm4, rm6, fz0, fz1, X5_bound_e, X5_isIn_e, Nat.lt_irrefl, Nat.le_refl, Nat.not_lt_zero, Nat.zero_le, n9a, n9b, n9c, n9d, n9e, n9f, n9g, e1, e2, e3, fzp0, ↓reduceIte]
      · have e2 := rd1_n (c := c) (P := 4 * k + 2) (hT.pg hPg2) hL hp2 (by omega) hT2 d2
        refine ⟨G2', hPg2, Or.inl ⟨p + 1 + 1, by omega, ck_n (fun z => d2 (dg_e.mpr z)), ?_, hp2⟩⟩
        simp (disch := omega) only [gi_nI, tn_nI, hs_1, hs_2, hs_3, hs_4, hs_5, hs_6, hs_7, hs_s, hs_m, hs_h, hs_t, lit_nI, nI_add, nI_mul, nI_eq, nI_leI, nI_ltI, nm_j, bd_j, Nat.one_ne_zero, Nat.zero_ne_one, Nat.reduceEqDiff, Nat.reduceLeDiff, Nat.reduceLT, Nat.reduceAdd, Nat.reduceSub, Nat.reduceMul, e10, e01, en1, en2, en3, en4, en6, rq1, rq2, rq3, rq4, rq6, rm1, rm2, rm3, rm4, rm6, fz0, fz1, X5_bound_e, X5_isIn_e, Nat.lt_irrefl, Nat.le_refl, Nat.not_lt_zero, Nat.zero_le, n9a, n9b, n9c, n9d, n9e, n9f, n9g, e1, e2, fzp0, ↓reduceIte]
    · have e1 := rd1_n (c := c) (P := 4 * k + 1) (hT.pg hPg1) hL hp1 (by omega) hT2 d1
      refine ⟨G1, hPg1, Or.inl ⟨p + 1, by omega, ck_n (fun z => d1 (dg_e.mpr z)), ?_, hp1⟩⟩
      simp (disch := omega) only [gi_nI, tn_nI, hs_1, hs_2, hs_3, hs_4, hs_5, hs_6, hs_7, hs_s, hs_m, hs_h, hs_t, lit_nI, nI_add, nI_mul, nI_eq, nI_leI, nI_ltI, nm_j, bd_j, Nat.one_ne_zero, Nat.zero_ne_one, Nat.reduceEqDiff, Nat.reduceLeDiff, Nat.reduceLT, Nat.reduceAdd, Nat.reduceSub, Nat.reduceMul, e10, e01, en1, en2, en3, en4, en6, rq1, rq2, rq3, rq4, rq6, rm1, rm2, rm3, rm4, rm6, fz0, fz1, X5_bound_e, X5_isIn_e, Nat.lt_irrefl, Nat.le_refl, Nat.not_lt_zero, Nat.zero_le, n9a, n9b, n9c, n9d, n9e, n9f, n9g, e1, fzp0, ↓reduceIte]
  · have hck : ck T L [107, 57, 57, 57] p = some p := ck_n (fun z => h0 ⟨z.1, ft107.mp z.2⟩)
    have em : ∃ x, f_X5_next (hs c G) = some x ∧ f_X5_kindOf x = some (-nI 1) := by
      by_cases h1 : p < L
      · have h2 : ¬ kN (T p) < 6 := fun z => h0 ⟨h1, z⟩
        rw [if_pos h1] at en
        have ek := l_k5 (T p) (hT2 p)
        rw [if_neg h2] at ek
        exact ⟨_, en, ek⟩
      · rw [if_neg h1] at en
        exact ⟨_, en, l_k5n⟩
    obtain ⟨x, e1, e2⟩ := em
    refine ⟨su G 11 (4 * k) (-nI 1), Pg.s11 (Nat.le_refl _) (by omega), Or.inl ⟨p, hpL, hck, ?_, ?_⟩⟩
    · simp (disch := omega) only [gi_nI, tn_nI, hs_1, hs_2, hs_3, hs_4, hs_5, hs_6, hs_7, hs_s, hs_m, hs_h, hs_t, lit_nI, nI_add, nI_mul, nI_eq, nI_leI, nI_ltI, nm_j, bd_j, Nat.one_ne_zero, Nat.zero_ne_one, Nat.reduceEqDiff, Nat.reduceLeDiff, Nat.reduceLT, Nat.reduceAdd, Nat.reduceSub, Nat.reduceMul, e10, e01, en1, en2, en3, en4, en6, rq1, rq2, rq3, rq4, rq6, rm1, rm2, rm3, rm4, rm6, fz0, fz1, X5_bound_e, X5_isIn_e, Nat.lt_irrefl, Nat.le_refl, Nat.not_lt_zero, Nat.zero_le, n9a, n9b, n9c, n9d, n9e, n9f, n9g, e1, e2, u1, r1, n1m, fzp0, ↓reduceIte]
    · rw [su_ne (by omega), hp]
theorem ra_all (hT : Tp T L G) (hL : L ≤ 96) (hp : G 16 5 = nI p) (hpL : p ≤ L) (hT2 : ∀ j, T j < 256) (hk : k < 48) {b : Nat} (hb : b = 98 ∨ b = 109 ∨ b = 115 ∨ b = 116 ∨ b = 118 ∨ b = 119) : RA T L k c G b p (f_X5_readsAll (hs c G) (nI b) (nI (4 * k))) := by
  have two : ∀ {b : Nat} {X Y : Option (Int32 × St)}, RA T L k c G b p X → (∀ v m, X = some (v, m) → (v = nI 0 ∨ v = nI 1) → Y = some (v, m)) → RA T L k c G b p Y := by
    rintro b X Y ⟨G', h1, ⟨e, h2, h3, h4, h5⟩ | ⟨h2, h3, h4, h5⟩⟩ hXY
    · exact ⟨G', h1, Or.inl ⟨e, h2, h3, hXY _ _ h4 (Or.inl rfl), h5⟩⟩
    · exact ⟨G', h1, Or.inr ⟨h2, hXY _ _ h3 (Or.inr rfl), h4, h5⟩⟩
  rcases hb with rfl | rfl | rfl | rfl | rfl | rfl
  · exact ra_3 hT hL hp hpL hT2 hk (Or.inl rfl)
  · refine two (ra_4 hT hL hp hpL hT2 hk) (fun v m h hv => ?_)
    unfold f_X5_readsAll
    rcases hv with rfl | rfl
    · simp (disch := omega) only [gi_nI, tn_nI, hs_1, hs_2, hs_3, hs_4, hs_5, hs_6, hs_7, hs_s, hs_m, hs_h, hs_t, lit_nI, nI_add, nI_mul, nI_eq, nI_leI, nI_ltI, nm_j, bd_j, Nat.one_ne_zero, Nat.zero_ne_one, Nat.reduceEqDiff, Nat.reduceLeDiff, Nat.reduceLT, Nat.reduceAdd, Nat.reduceSub, Nat.reduceMul, e10, e01, en1, en2, en3, en4, en6, rq1, rq2, rq3, rq4, rq6, rm1, rm2, rm3, rm4, rm6, fz0, fz1, X5_bound_e, X5_isIn_e, Nat.lt_irrefl, Nat.le_refl, Nat.not_lt_zero, Nat.zero_le, n9a, n9b, n9c, n9d, n9e, n9f, n9g, h, fzp0, ↓reduceIte]
    · simp (disch := omega) only [gi_nI, tn_nI, hs_1, hs_2, hs_3, hs_4, hs_5, hs_6, hs_7, hs_s, hs_m, hs_h, hs_t, lit_nI, nI_add, nI_mul, nI_eq, nI_leI, nI_ltI, nm_j, bd_j, Nat.one_ne_zero, Nat.zero_ne_one, Nat.reduceEqDiff, Nat.reduceLeDiff, Nat.reduceLT, Nat.reduceAdd, Nat.reduceSub, Nat.reduceMul, e10, e01, en1, en2, en3, en4, en6, rq1, rq2, rq3, rq4, rq6, rm1, rm2, rm3, rm4, rm6, fz0, fz1, X5_bound_e, X5_isIn_e, Nat.lt_irrefl, Nat.le_refl, Nat.not_lt_zero, Nat.zero_le, n9a, n9b, n9c, n9d, n9e, n9f, n9g, h, fzp1, ↓reduceIte]
  · refine two (ra_1 hT hL hp hpL hT2 hk (Or.inl rfl)) (fun v m h hv => ?_)
    unfold f_X5_readsAll
    rcases hv with rfl | rfl
    · simp (disch := omega) only [gi_nI, tn_nI, hs_1, hs_2, hs_3, hs_4, hs_5, hs_6, hs_7, hs_s, hs_m, hs_h, hs_t, lit_nI, nI_add, nI_mul, nI_eq, nI_leI, nI_ltI, nm_j, bd_j, Nat.one_ne_zero, Nat.zero_ne_one, Nat.reduceEqDiff, Nat.reduceLeDiff, Nat.reduceLT, Nat.reduceAdd, Nat.reduceSub, Nat.reduceMul, e10, e01, en1, en2, en3, en4, en6, rq1, rq2, rq3, rq4, rq6, rm1, rm2, rm3, rm4, rm6, fz0, fz1, X5_bound_e, X5_isIn_e, Nat.lt_irrefl, Nat.le_refl, Nat.not_lt_zero, Nat.zero_le, n9a, n9b, n9c, n9d, n9e, n9f, n9g, h, fzp0, ↓reduceIte]
    · simp (disch := omega) only [gi_nI, tn_nI, hs_1, hs_2, hs_3, hs_4, hs_5, hs_6, hs_7, hs_s, hs_m, hs_h, hs_t, lit_nI, nI_add, nI_mul, nI_eq, nI_leI, nI_ltI, nm_j, bd_j, Nat.one_ne_zero, Nat.zero_ne_one, Nat.reduceEqDiff, Nat.reduceLeDiff, Nat.reduceLT, Nat.reduceAdd, Nat.reduceSub, Nat.reduceMul, e10, e01, en1, en2, en3, en4, en6, rq1, rq2, rq3, rq4, rq6, rm1, rm2, rm3, rm4, rm6, fz0, fz1, X5_bound_e, X5_isIn_e, Nat.lt_irrefl, Nat.le_refl, Nat.not_lt_zero, Nat.zero_le, n9a, n9b, n9c, n9d, n9e, n9f, n9g, h, fzp1, ↓reduceIte]
  · refine two (ra_1 hT hL hp hpL hT2 hk (Or.inr rfl)) (fun v m h hv => ?_)
    unfold f_X5_readsAll
    rcases hv with rfl | rfl
    · simp (disch := omega) only [gi_nI, tn_nI, hs_1, hs_2, hs_3, hs_4, hs_5, hs_6, hs_7, hs_s, hs_m, hs_h, hs_t, lit_nI, nI_add, nI_mul, nI_eq, nI_leI, nI_ltI, nm_j, bd_j, Nat.one_ne_zero, Nat.zero_ne_one, Nat.reduceEqDiff, Nat.reduceLeDiff, Nat.reduceLT, Nat.reduceAdd, Nat.reduceSub, Nat.reduceMul, e10, e01, en1, en2, en3, en4, en6, rq1, rq2, rq3, rq4, rq6, rm1, rm2, rm3, rm4, rm6, fz0, fz1, X5_bound_e, X5_isIn_e, Nat.lt_irrefl, Nat.le_refl, Nat.not_lt_zero, Nat.zero_le, n9a, n9b, n9c, n9d, n9e, n9f, n9g, h, fzp0, ↓reduceIte]
    · simp (disch := omega) only [gi_nI, tn_nI, hs_1, hs_2, hs_3, hs_4, hs_5, hs_6, hs_7, hs_s, hs_m, hs_h, hs_t, lit_nI, nI_add, nI_mul, nI_eq, nI_leI, nI_ltI, nm_j, bd_j, Nat.one_ne_zero, Nat.zero_ne_one, Nat.reduceEqDiff, Nat.reduceLeDiff, Nat.reduceLT, Nat.reduceAdd, Nat.reduceSub, Nat.reduceMul, e10, e01, en1, en2, en3, en4, en6, rq1, rq2, rq3, rq4, rq6, rm1, rm2, rm3, rm4, rm6, fz0, fz1, X5_bound_e, X5_isIn_e, Nat.lt_irrefl, Nat.le_refl, Nat.not_lt_zero, Nat.zero_le, n9a, n9b, n9c, n9d, n9e, n9f, n9g, h, fzp1, ↓reduceIte]
  · exact ra_3 hT hL hp hpL hT2 hk (Or.inr rfl)
  · refine two (ra_2 hT hL hp hpL hT2 hk) (fun v m h hv => ?_)
    unfold f_X5_readsAll
    rcases hv with rfl | rfl
    · simp (disch := omega) only [gi_nI, tn_nI, hs_1, hs_2, hs_3, hs_4, hs_5, hs_6, hs_7, hs_s, hs_m, hs_h, hs_t, lit_nI, nI_add, nI_mul, nI_eq, nI_leI, nI_ltI, nm_j, bd_j, Nat.one_ne_zero, Nat.zero_ne_one, Nat.reduceEqDiff, Nat.reduceLeDiff, Nat.reduceLT, Nat.reduceAdd, Nat.reduceSub, Nat.reduceMul, e10, e01, en1, en2, en3, en4, en6, rq1, rq2, rq3, rq4, rq6, rm1, rm2, rm3, rm4, rm6, fz0, fz1, X5_bound_e, X5_isIn_e, Nat.lt_irrefl, Nat.le_refl, Nat.not_lt_zero, Nat.zero_le, n9a, n9b, n9c, n9d, n9e, n9f, n9g, h, fzp0, ↓reduceIte]
    · simp (disch := omega) only [gi_nI, tn_nI, hs_1, hs_2, hs_3, hs_4, hs_5, hs_6, hs_7, hs_s, hs_m, hs_h, hs_t, lit_nI, nI_add, nI_mul, nI_eq, nI_leI, nI_ltI, nm_j, bd_j, Nat.one_ne_zero, Nat.zero_ne_one, Nat.reduceEqDiff, Nat.reduceLeDiff, Nat.reduceLT, Nat.reduceAdd, Nat.reduceSub, Nat.reduceMul, e10, e01, en1, en2, en3, en4, en6, rq1, rq2, rq3, rq4, rq6, rm1, rm2, rm3, rm4, rm6, fz0, fz1, X5_bound_e, X5_isIn_e, Nat.lt_irrefl, Nat.le_refl, Nat.not_lt_zero, Nat.zero_le, n9a, n9b, n9c, n9d, n9e, n9f, n9g, h, fzp1, ↓reduceIte]
end RAs
