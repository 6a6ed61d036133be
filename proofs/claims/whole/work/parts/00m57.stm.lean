/-! THE LETTERS: one statement of the reference -/
def Pf (k : Nat) (G G' : St) : Prop := ∀ i j, ¬ (i = 9 ∧ j = k) → ¬ (i = 10 ∧ j = k) → ¬ (i = 11 ∧ 4 * k ≤ j ∧ j < 4 * k + 4) → ¬ (i = 16 ∧ j = 5) → G' i j = G i j
theorem Pf.tr {k : Nat} {G G' G'' : St} (h1 : Pf k G G') (h2 : Pf k G' G'') : Pf k G G'' := fun i j a b d e => (h2 i j a b d e).trans (h1 i j a b d e)
theorem Pf.pg {k : Nat} {G G' : St} (h : Pg k G G') : Pf k G G' := fun i j _ _ d e => h i j d e
theorem Pf.s {k a j0 : Nat} {G : St} {v : Int32} (h : (a = 9 ∧ j0 = k) ∨ (a = 10 ∧ j0 = k) ∨ (a = 16 ∧ j0 = 5)) : Pf k G (su G a j0 v) := fun i j h1 h2 _ h4 => su_ne (by omega)
theorem Pf.tp {T : Nat → Nat} {L k : Nat} {G G' : St} (h : Tp T L G) (hP : Pf k G G') : Tp T L G' := ⟨by rw [hP 16 4 (by omega) (by omega) (by omega) (by omega)]; exact h.1, fun j hj => by rw [hP 8 j (by omega) (by omega) (by omega) (by omega)]; exact h.2 j hj⟩
theorem Sx.pf {kc : G2} {g w q G G' : St} {k : Nat} (h : Sx kc g w q G) (hP : Pf k G G') : Sx kc g w q G' := by
  have e : ∀ i, i ≠ 9 → i ≠ 10 → i ≠ 11 → i ≠ 16 → G' i = G i := fun i h1 h2 h3 h4 => by
    funext j
    exact hP i j (by omega) (by omega) (by omega) (by omega)
  exact h.sd ⟨fun z => by rw [e 0 (by decide) (by decide) (by decide) (by decide)]; exact z, rfl, e 8 (by decide) (by decide) (by decide) (by decide), e 15 (by decide) (by decide) (by decide) (by decide), fun j hj => hP 16 j (by omega) (by omega) (by omega) (by omega), fun j _ => by rw [e 12 (by decide) (by decide) (by decide) (by decide)]⟩
theorem ck_app {T : Nat → Nat} {L : Nat} : ∀ (a : List Nat) (p : Nat), ck T L (a ++ [59]) p = match ck T L a p with
    | some e => some e
    | none => ck T L [59] (p + a.length)
  | [], p => rfl
  | ch :: r, p => by
    by_cases h : p < L ∧ ft (T p) ch = true
    · rw [List.cons_append, ck_y h, ck_y h, ck_app r (p + 1), List.length_cons, show p + (r.length + 1) = p + 1 + r.length by omega]
    · rw [List.cons_append, ck_n h, ck_n h]
def opn (b : Nat) : Prop := b = 98 ∨ b = 109 ∨ b = 115 ∨ b = 116 ∨ b = 118 ∨ b = 119
theorem opn_of {b : Nat} (h : ¬ cs b = 0) : opn b := by
  unfold cs at h
  unfold opn
  by_cases h1 : b = 98
  · exact Or.inl h1
  · by_cases h2 : b = 109
    · exact Or.inr (Or.inl h2)
    · by_cases h3 : b = 115
      · exact Or.inr (Or.inr (Or.inl h3))
      · by_cases h4 : b = 116
        · exact Or.inr (Or.inr (Or.inr (Or.inl h4)))
        · by_cases h5 : b = 118
          · exact Or.inr (Or.inr (Or.inr (Or.inr (Or.inl h5))))
          · by_cases h6 : b = 119
            · exact Or.inr (Or.inr (Or.inr (Or.inr (Or.inr h6))))
            · simp [h1, h2, h3, h4, h5, h6] at h
theorem pat_b {b : Nat} (h : opn b) : pat (cs b) = bdy b ++ [59] ∧ ln (cs b) = (bdy b).length + 1 := by
  rcases h with rfl | rfl | rfl | rfl | rfl | rfl <;> decide
section STM
variable {c : G2} {G : St} {T : Nat → Nat} {L p k : Nat}
theorem stm_no (hT : Tp T L G) (hL : L ≤ 96) (hp : G 16 5 = nI p) (hpL : p ≤ L) (hT2 : ∀ j, T j < 256) (h : ¬ (p < L ∧ ¬ cs (T p) = 0)) : f_X5_statement (hs c G) = some (nI 0, hs c G) := by
  have en := X5_nx (c := c) hT hL hp (by omega)
  unfold f_X5_statement
  by_cases h1 : p < L
  · rw [if_pos h1] at en
    have hc : cs (T p) = 0 := Decidable.byContradiction fun z => h ⟨h1, z⟩
    have b := hT2 p
    have k1 : ¬ T p = 98 := fun e => by rw [e] at hc; exact absurd hc (by decide)
    have k2 : ¬ T p = 109 := fun e => by rw [e] at hc; exact absurd hc (by decide)
    have k3 : ¬ T p = 115 := fun e => by rw [e] at hc; exact absurd hc (by decide)
    have k4 : ¬ T p = 116 := fun e => by rw [e] at hc; exact absurd hc (by decide)
    have k5 : ¬ T p = 118 := fun e => by rw [e] at hc; exact absurd hc (by decide)
    have k6 : ¬ T p = 119 := fun e => by rw [e] at hc; exact absurd hc (by decide)
    rw [en]
    simp only [bd_j]
    have q : ∀ v, v < 2147483648 → ¬ T p = v → ¬ nI (T p) = nI v := fun v hv hn e => hn ((nI_eq (by omega) hv).mp e)
    rw [if_neg (show ¬ nI (T p) = 115 from q 115 (by omega) k3), if_neg (show ¬ nI (T p) = 109 from q 109 (by omega) k2), if_neg (show ¬ nI (T p) = 116 from q 116 (by omega) k4), if_neg (show ¬ nI (T p) = 98 from q 98 (by omega) k1), if_neg (show ¬ nI (T p) = 118 from q 118 (by omega) k5), if_neg (show ¬ nI (T p) = 119 from q 119 (by omega) k6)]
    exact fzp0
  · rw [if_neg h1] at en
    rw [en]
    simp only [bd_j]
    have q : ∀ v, v < 2147483648 → ¬ -nI 1 = nI v := fun v hv e => (n1q hv).mp e
    rw [if_neg (show ¬ -nI 1 = 115 from q 115 (by omega)), if_neg (show ¬ -nI 1 = 109 from q 109 (by omega)), if_neg (show ¬ -nI 1 = 116 from q 116 (by omega)), if_neg (show ¬ -nI 1 = 98 from q 98 (by omega)), if_neg (show ¬ -nI 1 = 118 from q 118 (by omega)), if_neg (show ¬ -nI 1 = 119 from q 119 (by omega))]
    exact fzp0
/-- a statement's common way -/
theorem stm_way (M : St) (b : Nat) (hb : opn b) (hn : f_X5_next M = some (nI b)) : f_X5_statement M = fzp (gi (M 16 6) 48 (nm (su M 9 ((M 16 6)).toNatClampNeg (nI b)) fun h_4 => (gi (h_4 16 6) 48 (nm (su h_4 10 ((h_4 16 6)).toNatClampNeg (h_4 16 5)) fun h_6 => (nm (su h_6 16 5 ((h_6 16 5) + (1 : Int32))) fun h_7 => (bd (f_X5_readsAll h_7 (nI b) ((4 : Int32) * (h_7 16 6))) fun a_8 => (if a_8.1 = 0 then (some ((0 : Int32), a_8.2)) else (bd (f_X5_next a_8.2) fun a_10 => (if a_10 = (59 : Int32) then (nm (su a_8.2 16 5 ((a_8.2 16 5) + (1 : Int32))) fun h_12 => (some ((1 : Int32), h_12))) else (some ((0 : Int32), a_8.2))))))))))) := by
  unfold f_X5_statement
  rw [hn]
  simp only [bd_j]
  rcases hb with rfl | rfl | rfl | rfl | rfl | rfl
  · rw [if_neg (show ¬ nI 98 = 115 by decide +kernel), if_neg (show ¬ nI 98 = 109 by decide +kernel), if_neg (show ¬ nI 98 = 116 by decide +kernel), if_pos (show nI 98 = 98 from rfl)]
  · rw [if_neg (show ¬ nI 109 = 115 by decide +kernel), if_pos (show nI 109 = 109 from rfl)]
  · rw [if_pos (show nI 115 = 115 from rfl)]
  · rw [if_neg (show ¬ nI 116 = 115 by decide +kernel), if_neg (show ¬ nI 116 = 109 by decide +kernel), if_pos (show nI 116 = 116 from rfl)]
  · rw [if_neg (show ¬ nI 118 = 115 by decide +kernel), if_neg (show ¬ nI 118 = 109 by decide +kernel), if_neg (show ¬ nI 118 = 116 by decide +kernel), if_neg (show ¬ nI 118 = 98 by decide +kernel), if_pos (show nI 118 = 118 from rfl)]
  · rw [if_neg (show ¬ nI 119 = 115 by decide +kernel), if_neg (show ¬ nI 119 = 109 by decide +kernel), if_neg (show ¬ nI 119 = 116 by decide +kernel), if_neg (show ¬ nI 119 = 98 by decide +kernel), if_neg (show ¬ nI 119 = 118 by decide +kernel), if_pos (show nI 119 = 119 from rfl)]
theorem stm_yes (hT : Tp T L G) (hL : L ≤ 96) (hp : G 16 5 = nI p) (hT2 : ∀ j, T j < 256) (hk : k < 48) (h6 : G 16 6 = nI k) (h1 : p < L) (h2 : ¬ cs (T p) = 0) : ∃ G', Pf k G G' ∧ G' 9 k = nI (T p) ∧ G' 10 k = nI p ∧ ((∃ e, ck T L (pat (cs (T p))) (p + 1) = some e ∧ f_X5_statement (hs c G) = some (nI 0, hs c G') ∧ G' 16 5 = nI e) ∨ (ck T L (pat (cs (T p))) (p + 1) = none ∧ f_X5_statement (hs c G) = some (nI 1, hs c G') ∧ G' 16 5 = nI (p + 1 + ln (cs (T p))) ∧ tv T (T p) (p + 1) k G')) := by
  have hb := opn_of h2
  have bT := hT2 p
  have en := X5_nx (c := c) hT hL hp (by omega)
  rw [if_pos h1] at en
  rw [stm_way _ _ hb en, (pat_b hb).1, (pat_b hb).2, ck_app]
  have r6 : hs c G 16 6 = nI k := by rw [hs_16 (by omega), h6]
  have u1 : su (hs c G) 9 k (nI (T p)) = hs c (su G 9 k (nI (T p))) := su_hso (by decide) (by decide)
  have r6' : hs c (su G 9 k (nI (T p))) 16 6 = nI k := by rw [hs_16 (by omega), su_ne (by omega), h6]
  have r5' : hs c (su G 9 k (nI (T p))) 16 5 = nI p := by rw [hs_16 (by omega), su_ne (by omega), hp]
  have u2 : su (hs c (su G 9 k (nI (T p)))) 10 k (nI p) = hs c (su (su G 9 k (nI (T p))) 10 k (nI p)) := su_hso (by decide) (by decide)
  have r5'' : hs c (su (su G 9 k (nI (T p))) 10 k (nI p)) 16 5 = nI p := by rw [hs_16 (by omega), su_ne (by omega), su_ne (by omega), hp]
  obtain ⟨G1, hG1⟩ : ∃ G1, G1 = su (su (su G 9 k (nI (T p))) 10 k (nI p)) 16 5 (nI (p + 1)) := ⟨_, rfl⟩
  have u3 : su (hs c (su (su G 9 k (nI (T p))) 10 k (nI p))) 16 5 (nI (p + 1)) = hs c G1 := by rw [su_hs16o (by decide), hG1]
  have hP1 : Pf k G G1 := by rw [hG1]; exact (Pf.s (Or.inl ⟨rfl, rfl⟩)).tr ((Pf.s (Or.inr (Or.inl ⟨rfl, rfl⟩))).tr (Pf.s (Or.inr (Or.inr ⟨rfl, rfl⟩))))
  have hp1 : G1 16 5 = nI (p + 1) := by rw [hG1, su_at]
  have h61 : G1 16 6 = nI k := by rw [hG1, su_ne (by omega), su_ne (by omega), su_ne (by omega), h6]
  have r61 : hs c G1 16 6 = nI k := by rw [hs_16 (by omega), h61]
  have h91 : G1 9 k = nI (T p) := by rw [hG1, su_ne (by omega), su_ne (by omega), su_at]
  have h101 : G1 10 k = nI p := by rw [hG1, su_ne (by omega), su_at]
  have hT1 : Tp T L G1 := Pf.tp hT hP1
  clear hG1
  obtain ⟨G2', hg2, ⟨e, he, c1, c2, c3⟩ | ⟨c1, c2, c3, c4⟩⟩ := ra_all (c := c) hT1 hL hp1 (by omega) hT2 hk hb
  · refine ⟨G2', hP1.tr (Pf.pg hg2), by rw [hg2 9 k (by omega) (by omega), h91], by rw [hg2 10 k (by omega) (by omega), h101], Or.inl ⟨e, by rw [c1], ?_, c3⟩⟩
    simp (disch := omega) only [gi_nI, tn_nI, hs_1, hs_2, hs_3, hs_4, hs_5, hs_6, hs_7, hs_s, hs_m, hs_h, hs_t, lit_nI, nI_add, nI_mul, nI_eq, nI_leI, nI_ltI, nm_j, bd_j, Nat.one_ne_zero, Nat.zero_ne_one, Nat.reduceEqDiff, Nat.reduceLeDiff, Nat.reduceLT, Nat.reduceAdd, Nat.reduceSub, Nat.reduceMul, e10, e01, en1, en2, en3, en4, en6, rq1, rq2, rq3, rq4, rq6, rm1, rm2, rm3, rm4, rm6, fz0, fz1, X5_bound_e, X5_isIn_e, Nat.lt_irrefl, Nat.le_refl, Nat.not_lt_zero, Nat.zero_le, n9a, n9b, n9c, n9d, n9e, n9f, n9g, r6, u1, r6', r5', u2, r5'', u3, r61, c2, fzp0, ↓reduceIte]
  · have hT2' : Tp T L G2' := hT1.pg hg2
    have hle : p + 1 + (bdy (T p)).length ≤ L := ck_le _ _ (by omega) c1
    have en2 := X5_nx (c := c) hT2' hL c3 (by omega)
    have r52 : hs c G2' 16 5 = nI (p + 1 + (bdy (T p)).length) := by rw [hs_16 (by omega), c3]
    rw [c1]
    dsimp only
    by_cases h59 : p + 1 + (bdy (T p)).length < L ∧ T (p + 1 + (bdy (T p)).length) = 59
    · rw [if_pos h59.1, h59.2] at en2
      have u4 : su (hs c G2') 16 5 (nI (p + 1 + (bdy (T p)).length + 1)) = hs c (su G2' 16 5 (nI (p + 1 + (bdy (T p)).length + 1))) := su_hs16o (by decide)
      refine ⟨su G2' 16 5 (nI (p + 1 + (bdy (T p)).length + 1)), hP1.tr ((Pf.pg hg2).tr (Pf.s (Or.inr (Or.inr ⟨rfl, rfl⟩)))), ?_, ?_, Or.inr ⟨?_, ?_, ?_, ?_⟩⟩
      · rw [su_ne (by omega), hg2 9 k (by omega) (by omega), h91]
      · rw [su_ne (by omega), hg2 10 k (by omega) (by omega), h101]
      · rw [ck_y ⟨h59.1, ft59.mpr h59.2⟩]; rfl
      · simp (disch := omega) only [gi_nI, tn_nI, hs_1, hs_2, hs_3, hs_4, hs_5, hs_6, hs_7, hs_s, hs_m, hs_h, hs_t, lit_nI, nI_add, nI_mul, nI_eq, nI_leI, nI_ltI, nm_j, bd_j, Nat.one_ne_zero, Nat.zero_ne_one, Nat.reduceEqDiff, Nat.reduceLeDiff, Nat.reduceLT, Nat.reduceAdd, Nat.reduceSub, Nat.reduceMul, e10, e01, en1, en2, en3, en4, en6, rq1, rq2, rq3, rq4, rq6, rm1, rm2, rm3, rm4, rm6, fz0, fz1, X5_bound_e, X5_isIn_e, Nat.lt_irrefl, Nat.le_refl, Nat.not_lt_zero, Nat.zero_le, n9a, n9b, n9c, n9d, n9e, n9f, n9g, r6, u1, r6', r5', u2, r5'', u3, r61, c2, en2, r52, u4, fzp1, ↓reduceIte]
      · rw [su_at]; rfl
      · obtain ⟨t1, t2, t3, t4⟩ := c4
        refine ⟨fun hb0 => ?_, fun hb0 => ?_, fun hb0 => ?_, fun hb0 => ?_⟩
        · obtain ⟨y1, y2, y3, y4⟩ := t1 hb0
          exact ⟨by rw [su_ne (by omega)]; exact y1, by rw [su_ne (by omega)]; exact y2, by rw [su_ne (by omega)]; exact y3, by rw [su_ne (by omega)]; exact y4⟩
        · rw [su_ne (by omega)]; exact t2 hb0
        · obtain ⟨y1, y2⟩ := t3 hb0
          exact ⟨by rw [su_ne (by omega)]; exact y1, by rw [su_ne (by omega)]; exact y2⟩
        · rw [su_ne (by omega)]; exact t4 hb0
    · have hck : ck T L [59] (p + 1 + (bdy (T p)).length) = some (p + 1 + (bdy (T p)).length) := ck_n (fun z => h59 ⟨z.1, ft59.mp z.2⟩)
      refine ⟨G2', hP1.tr (Pf.pg hg2), by rw [hg2 9 k (by omega) (by omega), h91], by rw [hg2 10 k (by omega) (by omega), h101], Or.inl ⟨_, hck, ?_, c3⟩⟩
      by_cases hl : p + 1 + (bdy (T p)).length < L
      · rw [if_pos hl] at en2
        have hT59 := hT2 (p + 1 + (bdy (T p)).length)
        have h60 : ¬ T (p + 1 + (bdy (T p)).length) = 59 := fun z => h59 ⟨hl, z⟩
        simp (disch := omega) only [gi_nI, tn_nI, hs_1, hs_2, hs_3, hs_4, hs_5, hs_6, hs_7, hs_s, hs_m, hs_h, hs_t, lit_nI, nI_add, nI_mul, nI_eq, nI_leI, nI_ltI, nm_j, bd_j, Nat.one_ne_zero, Nat.zero_ne_one, Nat.reduceEqDiff, Nat.reduceLeDiff, Nat.reduceLT, Nat.reduceAdd, Nat.reduceSub, Nat.reduceMul, e10, e01, en1, en2, en3, en4, en6, rq1, rq2, rq3, rq4, rq6, rm1, rm2, rm3, rm4, rm6, fz0, fz1, X5_bound_e, X5_isIn_e, Nat.lt_irrefl, Nat.le_refl, Nat.not_lt_zero, Nat.zero_le, n9a, n9b, n9c, n9d, n9e, n9f, n9g, r6, u1, r6', r5', u2, r5'', u3, r61, c2, en2, h60, fzp0, ↓reduceIte]
      · rw [if_neg hl] at en2
        simp (disch := omega) only [gi_nI, tn_nI, hs_1, hs_2, hs_3, hs_4, hs_5, hs_6, hs_7, hs_s, hs_m, hs_h, hs_t, lit_nI, nI_add, nI_mul, nI_eq, nI_leI, nI_ltI, nm_j, bd_j, Nat.one_ne_zero, Nat.zero_ne_one, Nat.reduceEqDiff, Nat.reduceLeDiff, Nat.reduceLT, Nat.reduceAdd, Nat.reduceSub, Nat.reduceMul, e10, e01, en1, en2, en3, en4, en6, rq1, rq2, rq3, rq4, rq6, rm1, rm2, rm3, rm4, rm6, fz0, fz1, X5_bound_e, X5_isIn_e, Nat.lt_irrefl, Nat.le_refl, Nat.not_lt_zero, Nat.zero_le, n9a, n9b, n9c, n9d, n9e, n9f, n9g, r6, u1, r6', r5', u2, r5'', u3, r61, c2, en2, n1q, fzp0, ↓reduceIte]
end STM
theorem tv_pf {T : Nat → Nat} {b p i k : Nat} {G G' : St} (h : tv T b p i G) (hP : Pf k G G') (hi : i < k) : tv T b p i G' := by
  have e : ∀ j, j < 4 * k → G' 11 j = G 11 j := fun j hj => hP 11 j (by omega) (by omega) (by omega) (by omega)
  obtain ⟨t1, t2, t3, t4⟩ := h
  refine ⟨fun hb0 => ?_, fun hb0 => ?_, fun hb0 => ?_, fun hb0 => ?_⟩
  · rw [e _ (by omega), e _ (by omega), e _ (by omega), e _ (by omega)]; exact t1 hb0
  · rw [e _ (by omega)]; exact t2 hb0
  · rw [e _ (by omega), e _ (by omega)]; exact t3 hb0
  · rw [e _ (by omega)]; exact t4 hb0
