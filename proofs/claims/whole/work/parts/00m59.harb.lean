/-! HARBOUR -/
theorem Sx.tp0 {kc : G2} {g w q G : St} (h : Sx kc g w q G) : Sx kc (su g 1 0 (nI 0)) w q (su G 16 4 (nI 0)) := by
  obtain ⟨s1, s2, s3, s4, s5, s6, s7, s8, s9, s10⟩ := h
  refine ⟨?_, ?_, ?_, ⟨0, by omega, su_at⟩, fun j => ?_, ?_, ?_, ?_, ?_, ?_⟩
  · rw [s1]; simp [su]
  · have : su g 1 0 (nI 0) 0 = g 0 := by simp [su]
    rw [this, s2]; simp [su]
  · rw [su_at, su_at]
  · rw [su_ne (by omega)]; exact s5 j
  · rw [s6]; simp [su]
  · rw [s7, su_ne (by omega)]
  · rw [su_ne (by omega)]; exact s8
  · rw [s9, su_ne (by omega)]
  · rw [su_ne (by omega)]
    rcases s10 with s | ⟨s, t⟩
    · exact Or.inl s
    · exact Or.inr ⟨s, fun j hj => by rw [su_ne (by omega)]; exact t j hj⟩
theorem Sx.s56 {kc : G2} {g w q G : St} {k : Nat} {v : Int32} (h : Sx kc g w q G) (hk : k = 5 ∨ k = 6) : Sx kc g w q (su G 16 k v) := by
  have e : ∀ i, i ≠ 16 → su G 16 k v i = G i := fun i hi => by
    funext j
    exact su_ne (by omega)
  exact h.sd ⟨fun z => by rw [e 0 (by decide)]; exact z, rfl, e 8 (by decide), e 15 (by decide), fun j hj => su_ne (by omega), fun j _ => by rw [e 12 (by decide)]⟩
theorem ck_e {T : Nat → Nat} {L : Nat} : ∀ (r : List Nat) (p e : Nat), p ≤ L → ck T L r p = some e → e ≤ L
  | [], _, _, _, h => by cases h
  | ch :: r, p, e, hp, h => by
    by_cases hx : p < L ∧ ft (T p) ch = true
    · rw [ck_y hx] at h
      exact ck_e r (p + 1) e (by omega) h
    · rw [ck_n hx] at h
      cases h
      exact hp
theorem er_le {T : Nat → Nat} {L k : Nat} (h : stp T k ≤ L) : er T L k ≤ L := by
  unfold er
  split
  · rename_i hx
    cases hc : ck T L (pat (cs (T (stp T k)))) (stp T k + 1) with
    | none => exact Nat.zero_le _
    | some e => exact ck_e _ _ _ (by omega) hc
  · exact h
theorem m1000 : ∀ e, e < 100 → -nI 1000 - nI e ≤ nI 0 := by decide +kernel
theorem m2000 : ∀ e, e < 100 → -nI 2000 - nI e ≤ nI 0 := by decide +kernel
noncomputable def Fo (T : Nat → Nat) (g : St) (k : Nat) (d : G2) : Option G2 := @dite _ (∃ o, SB T g k d o) (Classical.propDecidable _) (fun h => Classical.choose h) (fun _ => none)
theorem Fo_s {T : Nat → Nat} {g : St} {k : Nat} {d : G2} (h : ∃ o, SB T g k d o) : SB T g k d (Fo T g k d) := by
  unfold Fo
  rw [dif_pos h]
  exact Classical.choose_spec h
noncomputable def hh (T : Nat → Nat) (g : St) (c : G2) : Nat → Option G2
  | 0 => some c
  | k + 1 => (hh T g c k).bind (Fo T g k)
theorem hh_s {T : Nat → Nat} {g : St} {c d : G2} {k : Nat} (h : hh T g c k = some d) : hh T g c (k + 1) = Fo T g k d := by
  show (hh T g c k).bind (Fo T g k) = _
  rw [h]
  rfl
theorem hh_n {T : Nat → Nat} {g : St} {c : G2} {k : Nat} (h : hh T g c k = none) : ∀ m, hh T g c (k + m) = none
  | 0 => h
  | m + 1 => by
    show (hh T g c (k + m)).bind (Fo T g (k + m)) = none
    rw [hh_n h m]
    rfl
section HB
variable {c kc : G2} {T : Nat → Nat} {L N : Nat} {g w q : St}
theorem X1_play_bad {Gt : St} (hg : ∀ j, j < L → g 0 j = nI (T j)) (hT2 : ∀ j, T j < 256) (hL : L ≤ 96) (hgL : g 1 0 = nI L) (h : ∀ i, i < N → wf T L i) (hb : ¬ wf T L N) (hk : stp T N < L ∨ N = 0) : f_X1_play g (hs c Gt) = some (-nI 1000 - nI (er T L N), hs c Gt) := by
  have e1 := X1_first hg hT2 hL hgL
  rw [go_bad h hb hk] at e1
  have hle := (stp_le N h).1
  have he := er_le (T := T) (L := L) (k := N) hle
  unfold f_X1_play
  rw [e1]
  simp only [bd_j]
  rw [if_neg (show ¬ nI (er T L N) = -9 from fun z => by
    have := (n9a (v := er T L N) (by omega)).mp z
    exact this)]
  rfl
theorem X1_play_good {Gt : St} (hG : Gd c) (hg : ∀ j, j < L → g 0 j = nI (T j)) (hT2 : ∀ j, T j < 256) (hL : L ≤ 96) (hgL : g 1 0 = nI L) (h : ∀ i, i < N → wf T L i) (hN : stp T N = L) (h0 : 0 < N) : ∃ r, f_X1_play g (hs c Gt) = some r ∧ ((∃ d, hh T g c N = some d ∧ Gd d ∧ r = (nI N, hs d Gt)) ∨ ∃ k d, k < N ∧ hh T g c k = some d ∧ hh T g c (k + 1) = none ∧ Gd d ∧ r = (-nI 2000 - nI (stp T k), hs d Gt)) := by
  have e1 := X1_first hg hT2 hL hgL
  rw [go_good h hN h0] at e1
  have hle := stp_le N h
  unfold f_X1_play
  rw [e1]
  simp only [bd_j]
  rw [if_pos (show -nI 9 = -9 from rfl)]
  refine lp_r (fun k s => ∃ d, hh T g c k = some d ∧ Gd d ∧ s = (nI k, nI (stp T k), nI k, hs d Gt)) _ N ⟨c, rfl, hG, rfl⟩ (fun k hk s hs1 => ?_) (fun s hs1 => ?_) (by omega)
  · obtain ⟨d, a1, a2, rfl⟩ := hs1
    have hw := h k hk
    have hlek := stp_le k (fun i hi => h i (by omega))
    obtain ⟨s1, s2⟩ := Fo_s (hap_all (d := d) hg hT2 hL hgL hw (by omega) a2)
    have h1 : ¬ 96 ≤ k := by omega
    have h2 : ¬ L ≤ stp T k := by have := hw.1; omega
    cases ho : Fo T g k d with
    | none =>
      right
      obtain ⟨b1, -⟩ := s2 ho
      have b2 := b1 Gt
      refine ⟨_, Or.inr ⟨k, d, hk, a1, by rw [hh_s a1, ho], a2, rfl⟩, fun nx => ?_⟩
      simp (disch := omega) only [gi_nI, tn_nI, hs_1, hs_2, hs_3, hs_4, hs_5, hs_6, hs_7, hs_s, hs_m, hs_h, hs_t, lit_nI, nI_add, nI_mul, nI_eq, nI_leI, nI_ltI, nm_j, bd_j, Nat.one_ne_zero, Nat.zero_ne_one, Nat.reduceEqDiff, Nat.reduceLeDiff, Nat.reduceLT, Nat.reduceAdd, Nat.reduceSub, Nat.reduceMul, e10, e01, en1, en2, en3, en4, en6, rq1, rq2, rq3, rq4, rq6, rm1, rm2, rm3, rm4, rm6, fz0, fz1, X5_bound_e, X5_isIn_e, Nat.lt_irrefl, Nat.le_refl, Nat.not_lt_zero, Nat.zero_le, n9a, n9b, n9c, n9d, n9e, n9f, n9g, h1, hgL, h2, b2, ↓reduceIte]
    | some d' =>
      left
      obtain ⟨b1, b2, -⟩ := s1 d' ho
      have b3 := b2 Gt
      have e2 := hg (stp T k) hw.1
      have e3 := l_par (T (stp T k)) (hT2 _)
      have e4 := l_len (cs (T (stp T k))) (cs_lt hw.2.1).1
      refine ⟨_, ⟨d', by rw [hh_s a1, ho], b1, rfl⟩, fun nx => ?_⟩
      have hw1 := hw.1
      simp (disch := omega) only [gi_nI, tn_nI, hs_1, hs_2, hs_3, hs_4, hs_5, hs_6, hs_7, hs_s, hs_m, hs_h, hs_t, lit_nI, nI_add, nI_mul, nI_eq, nI_leI, nI_ltI, nm_j, bd_j, Nat.one_ne_zero, Nat.zero_ne_one, Nat.reduceEqDiff, Nat.reduceLeDiff, Nat.reduceLT, Nat.reduceAdd, Nat.reduceSub, Nat.reduceMul, e10, e01, en1, en2, en3, en4, en6, rq1, rq2, rq3, rq4, rq6, rm1, rm2, rm3, rm4, rm6, fz0, fz1, X5_bound_e, X5_isIn_e, Nat.lt_irrefl, Nat.le_refl, Nat.not_lt_zero, Nat.zero_le, n9a, n9b, n9c, n9d, n9e, n9f, n9g, h1, hgL, h2, b3, e2, e3, e4, ↓reduceIte]
      rw [show stp T (k + 1) = stp T k + (1 + ln (cs (T (stp T k)))) by simp only [stp]; omega]
  · obtain ⟨d, a1, a2, rfl⟩ := hs1
    refine ⟨_, Or.inl ⟨d, a1, a2, rfl⟩, fun nx => ?_⟩
    have h1 : ¬ 96 ≤ N := by omega
    simp (disch := omega) only [gi_nI, tn_nI, hs_1, hs_2, hs_3, hs_4, hs_5, hs_6, hs_7, hs_s, hs_m, hs_h, hs_t, lit_nI, nI_add, nI_mul, nI_eq, nI_leI, nI_ltI, nm_j, bd_j, Nat.one_ne_zero, Nat.zero_ne_one, Nat.reduceEqDiff, Nat.reduceLeDiff, Nat.reduceLT, Nat.reduceAdd, Nat.reduceSub, Nat.reduceMul, e10, e01, en1, en2, en3, en4, en6, rq1, rq2, rq3, rq4, rq6, rm1, rm2, rm3, rm4, rm6, fz0, fz1, X5_bound_e, X5_isIn_e, Nat.lt_irrefl, Nat.le_refl, Nat.not_lt_zero, Nat.zero_le, n9a, n9b, n9c, n9d, n9e, n9f, n9g, h1, hgL, hN, ↓reduceIte]
/-- what the reference's reading keeps -/
def Ph (kc : G2) (T : Nat → Nat) (L : Nat) (g w q : St) (k : Nat) (G : St) : Prop := Tp T L G ∧ G 16 5 = nI (stp T k) ∧ G 16 6 = nI k ∧ (∀ i, i < k → Fk T i G) ∧ Sx kc g w q G
theorem Ph_s {k : Nat} {G : St} (hT2 : ∀ j, T j < 256) (hL : L ≤ 96) (hk : k < 48) (h : Ph kc T L g w q k G) (hw : wf T L k) : ∃ G', f_X5_statement (hs c G) = some (nI 1, hs c G') ∧ G' 16 6 = nI k ∧ Ph kc T L g w q (k + 1) (su G' 16 6 (nI (k + 1))) := by
  obtain ⟨p1, p2, p3, p4, p5⟩ := h
  obtain ⟨w1, w2, w3⟩ := hw
  obtain ⟨G', a1, a2, a3, ⟨e, a4, -, -⟩ | ⟨-, a4, a5, a6⟩⟩ := stm_yes (c := c) p1 hL p2 hT2 hk p3 w1 w2
  · rw [w3] at a4
    cases a4
  · refine ⟨G', a4, by rw [a1 16 6 (by omega) (by omega) (by omega) (by omega), p3], ?_, ?_, su_at, fun i hi => ?_, (p5.pf a1).s56 (Or.inr rfl)⟩
    · have hT' := Pf.tp p1 a1
      exact ⟨by rw [su_ne (by omega)]; exact hT'.1, fun j hj => by rw [su_ne (by omega)]; exact hT'.2 j hj⟩
    · rw [su_ne (by omega), a5]; rfl
    · have sf : ∀ {i : Nat}, Fk T i G' → Fk T i (su G' 16 6 (nI (k + 1))) := by
        rintro i ⟨x1, x2, t1, t2, t3, t4⟩
        have e : ∀ j, su G' 16 6 (nI (k + 1)) 11 j = G' 11 j := fun j => su_ne (by omega)
        refine ⟨by rw [su_ne (by omega)]; exact x1, by rw [su_ne (by omega)]; exact x2, fun hb0 => ?_, fun hb0 => ?_, fun hb0 => ?_, fun hb0 => ?_⟩
        · rw [e, e, e, e]; exact t1 hb0
        · rw [e]; exact t2 hb0
        · rw [e, e]; exact t3 hb0
        · rw [e]; exact t4 hb0
      apply sf
      by_cases hik : i = k
      · rw [hik]
        exact ⟨a2, a3, a6⟩
      · obtain ⟨x1, x2, x3⟩ := p4 i (by omega)
        exact ⟨by rw [a1 9 i (by omega) (by omega) (by omega) (by omega)]; exact x1, by rw [a1 10 i (by omega) (by omega) (by omega) (by omega)]; exact x2, tv_pf x3 a1 (by omega)⟩
theorem Ph_r {k : Nat} {G : St} (h : Ph kc T L g w q k G) : hs c G 16 5 = nI (stp T k) ∧ hs c G 16 4 = nI L ∧ hs c G 16 6 = nI k := ⟨by rw [hs_16 (by omega)]; exact h.2.1, by rw [hs_16 (by omega)]; exact h.1.1, by rw [hs_16 (by omega)]; exact h.2.2.1⟩
theorem Ph_0 {GM : St} (hS : Sx kc g w q GM) (hT : Tp T L GM) : Ph kc T L g w q 0 (su (su GM 16 5 (nI 0)) 16 6 (nI 0)) := by
  refine ⟨⟨by rw [su_ne (by omega), su_ne (by omega)]; exact hT.1, fun j hj => by rw [su_ne (by omega), su_ne (by omega)]; exact hT.2 j hj⟩, by rw [su_ne (by omega), su_at]; rfl, su_at, fun i hi => absurd hi (Nat.not_lt_zero _), (hS.s56 (Or.inl rfl)).s56 (Or.inr rfl)⟩
theorem X5_harb_bad {GM : St} (hS : Sx kc g w q GM) (hT : Tp T L GM) (hT2 : ∀ j, T j < 256) (hL : L ≤ 96) (h : ∀ i, i < N → wf T L i) (hb : ¬ wf T L N) (hk : stp T N < L ∨ N = 0) : ∃ r, f_X5_harbour (hs c GM) = some r ∧ ∃ G', r = (-nI 1000 - nI (er T L N), hs c G') ∧ Sx kc (su g 1 0 (nI 0)) w q G' := by
  have hle := stp_le N h
  have u0 : su (su (hs c GM) 16 5 (nI 0)) 16 6 (nI 0) = hs c (su (su GM 16 5 (nI 0)) 16 6 (nI 0)) := by rw [su_hs16o (by decide), su_hs16o (by decide)]
  unfold f_X5_harbour
  simp only [nm_j, lit_nI, u0]
  refine lp_r (fun j s => (j ≤ N ∧ ∃ G, Ph kc T L g w q j G ∧ s = (nI 1, hs c G)) ∨ (j = N + 1 ∧ ∃ G, s = (nI 0, hs c G) ∧ G 16 5 = nI (er T L N) ∧ Sx kc g w q G)) _ (N + 1) (Or.inl ⟨Nat.zero_le _, _, Ph_0 hS hT, rfl⟩) (fun j hj s hs1 => Or.inl ?_) (fun s hs1 => ?_) (by omega)
  · rcases hs1 with ⟨hjN, G, hP, rfl⟩ | ⟨hjN, -⟩
    · obtain ⟨r5, r4, r6⟩ := Ph_r (c := c) hP
      have hlej := stp_le j (fun i hi => h i (by omega))
      by_cases hj2 : j < N
      · obtain ⟨G', a1, a2, a3⟩ := Ph_s (c := c) hT2 hL (by omega) hP (h j hj2)
        have w1 := (h j hj2).1
        have u1 : su (hs c G') 16 6 (nI (j + 1)) = hs c (su G' 16 6 (nI (j + 1))) := su_hs16o (by decide)
        have r6' : hs c G' 16 6 = nI j := by rw [hs_16 (by omega), a2]
        refine ⟨_, Or.inl ⟨by omega, _, a3, rfl⟩, fun nx => ?_⟩
        simp (disch := omega) only [gi_nI, tn_nI, hs_1, hs_2, hs_3, hs_4, hs_5, hs_6, hs_7, hs_s, hs_m, hs_h, hs_t, lit_nI, nI_add, nI_mul, nI_eq, nI_leI, nI_ltI, nm_j, bd_j, Nat.one_ne_zero, Nat.zero_ne_one, Nat.reduceEqDiff, Nat.reduceLeDiff, Nat.reduceLT, Nat.reduceAdd, Nat.reduceSub, Nat.reduceMul, e10, e01, en1, en2, en3, en4, en6, rq1, rq2, rq3, rq4, rq6, rm1, rm2, rm3, rm4, rm6, fz0, fz1, X5_bound_e, X5_isIn_e, Nat.lt_irrefl, Nat.le_refl, Nat.not_lt_zero, Nat.zero_le, n9a, n9b, n9c, n9d, n9e, n9f, n9g, r5, r4, w1, a1, r6', u1, ↓reduceIte]
      · have hjN' : j = N := by omega
        subst hjN'
        have main : ∃ G', f_X5_statement (hs c G) = some (nI 0, hs c G') ∧ G' 16 5 = nI (er T L j) ∧ Sx kc g w q G' := by
          obtain ⟨p1, p2, p3, p4, p5⟩ := hP
          by_cases hx : stp T j < L ∧ ¬ cs (T (stp T j)) = 0
          · obtain ⟨G', a1, a2, a3, ⟨e, a4, a5, a6⟩ | ⟨a4, -, -, -⟩⟩ := stm_yes (c := c) p1 hL p2 hT2 (by omega) p3 hx.1 hx.2
            · refine ⟨G', a5, ?_, p5.pf a1⟩
              rw [a6]
              unfold er
              rw [if_pos hx, a4]
              rfl
            · exact absurd ⟨hx.1, hx.2, a4⟩ hb
          · refine ⟨G, stm_no p1 hL p2 hlej.1 hT2 hx, ?_, p5⟩
            rw [p2]
            unfold er
            rw [if_neg hx]
        obtain ⟨G', a1, a2, a3⟩ := main
        obtain ⟨x, hx⟩ : ∃ x, x = hs c G' 16 6 := ⟨_, rfl⟩
        have u1 : ∀ v, su (hs c G') 16 6 v = hs c (su G' 16 6 v) := fun v => su_hs16o (by decide)
        refine ⟨(nI 0, hs c (su G' 16 6 (x + nI 0))), Or.inr ⟨rfl, _, rfl, by rw [su_ne (by omega)]; exact a2, a3.s56 (Or.inr rfl)⟩, fun nx => ?_⟩
        rcases hk with hk | hk
        · simp (disch := omega) only [gi_nI, tn_nI, hs_1, hs_2, hs_3, hs_4, hs_5, hs_6, hs_7, hs_s, hs_m, hs_h, hs_t, lit_nI, nI_add, nI_mul, nI_eq, nI_leI, nI_ltI, nm_j, bd_j, Nat.one_ne_zero, Nat.zero_ne_one, Nat.reduceEqDiff, Nat.reduceLeDiff, Nat.reduceLT, Nat.reduceAdd, Nat.reduceSub, Nat.reduceMul, e10, e01, en1, en2, en3, en4, en6, rq1, rq2, rq3, rq4, rq6, rm1, rm2, rm3, rm4, rm6, fz0, fz1, X5_bound_e, X5_isIn_e, Nat.lt_irrefl, Nat.le_refl, Nat.not_lt_zero, Nat.zero_le, n9a, n9b, n9c, n9d, n9e, n9f, n9g, r5, r4, hk, a1, ← hx, u1, ↓reduceIte]
        · by_cases hk2 : stp T j < L
          · simp (disch := omega) only [gi_nI, tn_nI, hs_1, hs_2, hs_3, hs_4, hs_5, hs_6, hs_7, hs_s, hs_m, hs_h, hs_t, lit_nI, nI_add, nI_mul, nI_eq, nI_leI, nI_ltI, nm_j, bd_j, Nat.one_ne_zero, Nat.zero_ne_one, Nat.reduceEqDiff, Nat.reduceLeDiff, Nat.reduceLT, Nat.reduceAdd, Nat.reduceSub, Nat.reduceMul, e10, e01, en1, en2, en3, en4, en6, rq1, rq2, rq3, rq4, rq6, rm1, rm2, rm3, rm4, rm6, fz0, fz1, X5_bound_e, X5_isIn_e, Nat.lt_irrefl, Nat.le_refl, Nat.not_lt_zero, Nat.zero_le, n9a, n9b, n9c, n9d, n9e, n9f, n9g, r5, r4, hk2, a1, ← hx, u1, ↓reduceIte]
          · subst hk
            simp (disch := omega) only [gi_nI, tn_nI, hs_1, hs_2, hs_3, hs_4, hs_5, hs_6, hs_7, hs_s, hs_m, hs_h, hs_t, lit_nI, nI_add, nI_mul, nI_eq, nI_leI, nI_ltI, nm_j, bd_j, Nat.one_ne_zero, Nat.zero_ne_one, Nat.reduceEqDiff, Nat.reduceLeDiff, Nat.reduceLT, Nat.reduceAdd, Nat.reduceSub, Nat.reduceMul, e10, e01, en1, en2, en3, en4, en6, rq1, rq2, rq3, rq4, rq6, rm1, rm2, rm3, rm4, rm6, fz0, fz1, X5_bound_e, X5_isIn_e, Nat.lt_irrefl, Nat.le_refl, Nat.not_lt_zero, Nat.zero_le, n9a, n9b, n9c, n9d, n9e, n9f, n9g, r5, r4, r6, hk2, a1, ← hx, u1, ↓reduceIte]
    · omega
  · rcases hs1 with ⟨hjN, -⟩ | ⟨-, G, rfl, g1, g2⟩
    · omega
    · have u1 : su (hs c G) 16 4 (nI 0) = hs c (su G 16 4 (nI 0)) := su_hs16o (by decide)
      have r5 : hs c (su G 16 4 (nI 0)) 16 5 = nI (er T L N) := by rw [hs_16 (by omega), su_ne (by omega), g1]
      refine ⟨_, ⟨su G 16 4 (nI 0), rfl, g2.tp0⟩, fun nx => ?_⟩
      simp (disch := omega) only [gi_nI, tn_nI, hs_1, hs_2, hs_3, hs_4, hs_5, hs_6, hs_7, hs_s, hs_m, hs_h, hs_t, lit_nI, nI_add, nI_mul, nI_eq, nI_leI, nI_ltI, nm_j, bd_j, Nat.one_ne_zero, Nat.zero_ne_one, Nat.reduceEqDiff, Nat.reduceLeDiff, Nat.reduceLT, Nat.reduceAdd, Nat.reduceSub, Nat.reduceMul, e10, e01, en1, en2, en3, en4, en6, rq1, rq2, rq3, rq4, rq6, rm1, rm2, rm3, rm4, rm6, fz0, fz1, X5_bound_e, X5_isIn_e, Nat.lt_irrefl, Nat.le_refl, Nat.not_lt_zero, Nat.zero_le, n9a, n9b, n9c, n9d, n9e, n9f, n9g, u1, r5, ↓reduceIte]
theorem X5_harb_good {GM : St} (hG : Gd c) (hg : ∀ j, j < L → g 0 j = nI (T j)) (hgL : g 1 0 = nI L) (hS : Sx kc g w q GM) (hT : Tp T L GM) (hT2 : ∀ j, T j < 256) (hL : L ≤ 96) (h : ∀ i, i < N → wf T L i) (hN : stp T N = L) (h0 : 0 < N) : ∃ r, f_X5_harbour (hs c GM) = some r ∧ ((∃ d G', hh T g c N = some d ∧ r = (nI N, hs d G') ∧ Sx kc (su g 1 0 (nI 0)) w q G') ∨ ∃ k d G', k < N ∧ hh T g c k = some d ∧ hh T g c (k + 1) = none ∧ r = (-nI 2000 - nI (stp T k), hs c G') ∧ Sx kc (su g 1 0 (nI 0)) w q G') := by
  have hle := stp_le N h
  have u0 : su (su (hs c GM) 16 5 (nI 0)) 16 6 (nI 0) = hs c (su (su GM 16 5 (nI 0)) 16 6 (nI 0)) := by rw [su_hs16o (by decide), su_hs16o (by decide)]
  unfold f_X5_harbour
  simp only [nm_j, lit_nI, u0]
  refine lp_r (fun j s => ∃ G, Ph kc T L g w q j G ∧ s = (nI 1, hs c G)) _ N ⟨_, Ph_0 hS hT, rfl⟩ (fun j hj s hs1 => Or.inl ?_) (fun s hs1 => ?_) (by omega)
  · obtain ⟨G, hP, rfl⟩ := hs1
    obtain ⟨r5, r4, r6⟩ := Ph_r (c := c) hP
    have hlej := stp_le j (fun i hi => h i (by omega))
    obtain ⟨G', a1, a2, a3⟩ := Ph_s (c := c) hT2 hL (by omega) hP (h j hj)
    have w1 := (h j hj).1
    have u1 : su (hs c G') 16 6 (nI (j + 1)) = hs c (su G' 16 6 (nI (j + 1))) := su_hs16o (by decide)
    have r6' : hs c G' 16 6 = nI j := by rw [hs_16 (by omega), a2]
    refine ⟨_, ⟨_, a3, rfl⟩, fun nx => ?_⟩
    simp (disch := omega) only [gi_nI, tn_nI, hs_1, hs_2, hs_3, hs_4, hs_5, hs_6, hs_7, hs_s, hs_m, hs_h, hs_t, lit_nI, nI_add, nI_mul, nI_eq, nI_leI, nI_ltI, nm_j, bd_j, Nat.one_ne_zero, Nat.zero_ne_one, Nat.reduceEqDiff, Nat.reduceLeDiff, Nat.reduceLT, Nat.reduceAdd, Nat.reduceSub, Nat.reduceMul, e10, e01, en1, en2, en3, en4, en6, rq1, rq2, rq3, rq4, rq6, rm1, rm2, rm3, rm4, rm6, fz0, fz1, X5_bound_e, X5_isIn_e, Nat.lt_irrefl, Nat.le_refl, Nat.not_lt_zero, Nat.zero_le, n9a, n9b, n9c, n9d, n9e, n9f, n9g, r5, r4, w1, a1, r6', u1, ↓reduceIte]
  · obtain ⟨G, hP, rfl⟩ := hs1
    obtain ⟨r5, r4, r6⟩ := Ph_r (c := c) hP
    rw [hN] at r5
    obtain ⟨-, -, p3, p4, p5⟩ := hP
    have u1 : su (hs c G) 16 4 (nI 0) = hs c (su G 16 4 (nI 0)) := su_hs16o (by decide)
    obtain ⟨G', k1, k2, k3⟩ := keepAll (c := c) (G := su G 16 4 (nI 0)) (b := 1) (by decide)
    have hN0 : ¬ N = 0 := by omega
    have hLL : ¬ L < L := Nat.lt_irrefl L
    have q9 : ∀ i, i = 9 ∨ i = 10 ∨ i = 11 → G' i = G i := fun i hi => by
      rw [k3.2.1 i (by omega) (by omega)]
      funext j
      exact su_ne (by omega)
    have hF : ∀ i, i < N → Fk T i G' := fun i hi => by
      obtain ⟨x1, x2, x3⟩ := p4 i hi
      refine ⟨by rw [q9 9 (by omega)]; exact x1, by rw [q9 10 (by omega)]; exact x2, ?_⟩
      unfold tv
      rw [q9 11 (by omega)]
      exact x3
    have hS' : Sx kc (su g 1 0 (nI 0)) w q G' := p5.tp0.sd (Sd.fr (by decide) k3)
    have q6 : G' 16 6 = nI N := by rw [k3.2.2 6 (by decide) (by decide), su_ne (by omega), p3]
    have r6' : ∀ d, hs d G' 16 6 = nI N := fun d => by rw [hs_16 (by omega), q6]
    simp (disch := omega) only [gi_nI, tn_nI, hs_1, hs_2, hs_3, hs_4, hs_5, hs_6, hs_7, hs_s, hs_m, hs_h, hs_t, lit_nI, nI_add, nI_mul, nI_eq, nI_leI, nI_ltI, nm_j, bd_j, Nat.one_ne_zero, Nat.zero_ne_one, Nat.reduceEqDiff, Nat.reduceLeDiff, Nat.reduceLT, Nat.reduceAdd, Nat.reduceSub, Nat.reduceMul, e10, e01, en1, en2, en3, en4, en6, rq1, rq2, rq3, rq4, rq6, rm1, rm2, rm3, rm4, rm6, fz0, fz1, X5_bound_e, X5_isIn_e, Nat.lt_irrefl, Nat.le_refl, Nat.not_lt_zero, Nat.zero_le, n9a, n9b, n9c, n9d, n9e, n9f, n9g, r5, r4, hLL, r6, hN0, u1, k1, ↓reduceIte]
    refine ex_sw ?_
    refine lp_r (fun k s => ∃ d, hh T g c k = some d ∧ Gd d ∧ s = (nI k, hs d G')) _ N ⟨c, rfl, hG, rfl⟩ (fun k hk s hs1 => ?_) (fun s hs1 => ?_) (by omega)
    · obtain ⟨d, a1, a2, rfl⟩ := hs1
      have hw := h k hk
      have r6d := r6' d
      have h1 : ¬ N ≤ k := by omega
      obtain ⟨s1, s2⟩ := Fo_s (hap_all (d := d) hg hT2 hL hgL hw (by omega) a2)
      cases ho : Fo T g k d with
      | none =>
        right
        obtain ⟨-, b1⟩ := s2 ho
        have b2 := b1 G' (hF k hk)
        obtain ⟨G3, m1, m2, m3⟩ := putAll (c := c) (d := d) (G := G') (b := 1) (by decide) hG.2.1 a2.2.1 k2
        have r10 : hs c G3 10 k = nI (stp T k) := by
          rw [hs_o (by decide) (by decide), m2.2.1 10 (by decide) (by decide)]
          exact (hF k hk).2.1
        refine ⟨_, Or.inr ⟨k, d, G3, hk, a1, by rw [hh_s a1, ho], rfl, hS'.sd (Sd.fr (by decide) m2)⟩, fun nx => ?_⟩
        simp (disch := omega) only [gi_nI, tn_nI, hs_1, hs_2, hs_3, hs_4, hs_5, hs_6, hs_7, hs_s, hs_m, hs_h, hs_t, lit_nI, nI_add, nI_mul, nI_eq, nI_leI, nI_ltI, nm_j, bd_j, Nat.one_ne_zero, Nat.zero_ne_one, Nat.reduceEqDiff, Nat.reduceLeDiff, Nat.reduceLT, Nat.reduceAdd, Nat.reduceSub, Nat.reduceMul, e10, e01, en1, en2, en3, en4, en6, rq1, rq2, rq3, rq4, rq6, rm1, rm2, rm3, rm4, rm6, fz0, fz1, X5_bound_e, X5_isIn_e, Nat.lt_irrefl, Nat.le_refl, Nat.not_lt_zero, Nat.zero_le, n9a, n9b, n9c, n9d, n9e, n9f, n9g, r6d, h1, b2, m1, r10, ↓reduceIte]
      | some d' =>
        left
        obtain ⟨b1, -, b2⟩ := s1 d' ho
        have b3 := b2 G' (hF k hk)
        refine ⟨_, ⟨d', by rw [hh_s a1, ho], b1, rfl⟩, fun nx => ?_⟩
        simp (disch := omega) only [gi_nI, tn_nI, hs_1, hs_2, hs_3, hs_4, hs_5, hs_6, hs_7, hs_s, hs_m, hs_h, hs_t, lit_nI, nI_add, nI_mul, nI_eq, nI_leI, nI_ltI, nm_j, bd_j, Nat.one_ne_zero, Nat.zero_ne_one, Nat.reduceEqDiff, Nat.reduceLeDiff, Nat.reduceLT, Nat.reduceAdd, Nat.reduceSub, Nat.reduceMul, e10, e01, en1, en2, en3, en4, en6, rq1, rq2, rq3, rq4, rq6, rm1, rm2, rm3, rm4, rm6, fz0, fz1, X5_bound_e, X5_isIn_e, Nat.lt_irrefl, Nat.le_refl, Nat.not_lt_zero, Nat.zero_le, n9a, n9b, n9c, n9d, n9e, n9f, n9g, r6d, h1, b3, ↓reduceIte]
    · obtain ⟨d, a1, a2, rfl⟩ := hs1
      have r6d := r6' d
      refine ⟨_, Or.inl ⟨d, G', a1, rfl, hS'⟩, fun nx => ?_⟩
      simp (disch := omega) only [gi_nI, tn_nI, hs_1, hs_2, hs_3, hs_4, hs_5, hs_6, hs_7, hs_s, hs_m, hs_h, hs_t, lit_nI, nI_add, nI_mul, nI_eq, nI_leI, nI_ltI, nm_j, bd_j, Nat.one_ne_zero, Nat.zero_ne_one, Nat.reduceEqDiff, Nat.reduceLeDiff, Nat.reduceLT, Nat.reduceAdd, Nat.reduceSub, Nat.reduceMul, e10, e01, en1, en2, en3, en4, en6, rq1, rq2, rq3, rq4, rq6, rm1, rm2, rm3, rm4, rm6, fz0, fz1, X5_bound_e, X5_isIn_e, Nat.lt_irrefl, Nat.le_refl, Nat.not_lt_zero, Nat.zero_le, n9a, n9b, n9c, n9d, n9e, n9f, n9g, r6d, ↓reduceIte]
end HB
theorem r_harbour {n t k g w z q M : St} (hR : R n t k g w z q M) : ∃ r n' t' g' M', f_X4_harbour n t k g w z q = some (r, n', t', g') ∧ f_X5_harbour M = some (r, M') ∧ R n' t' k g' w z q M' := by
  obtain ⟨c, ct, kc, Gn, Gt, Gk, GM, rfl, rfl, rfl, rfl, hG, hZ, hK, hS⟩ := hR
  obtain ⟨L, hL, s4⟩ := hS.2.2.2.1
  have hv := hS.2.2.2.2.1
  obtain ⟨T, hTe⟩ : ∃ T : Nat → Nat, T = fun j => (GM 8 j).toNatClampNeg := ⟨_, rfl⟩
  have hT8 : ∀ j, GM 8 j = nI (T j) ∧ T j < 256 := fun j => by
    obtain ⟨v, h1, h2⟩ := hv j
    have : T j = v := by rw [hTe]; show (GM 8 j).toNatClampNeg = v; rw [h2, tn_nI (by omega)]
    rw [this]
    exact ⟨h2, by omega⟩
  have hT2 : ∀ j, T j < 256 := fun j => (hT8 j).2
  have hT : Tp T L GM := ⟨s4, fun j _ => (hT8 j).1⟩
  have hg : ∀ j, j < L → g 0 j = nI (T j) := fun j _ => by rw [hS.2.1]; exact (hT8 j).1
  have hgL : g 1 0 = nI L := by rw [hS.2.2.1, s4]
  have e1 := X0_copyFrom (G := Gn) (Gt := Gt) hG.2.1 hZ
  obtain ⟨N, h, ⟨hN, h0⟩ | ⟨hb, hk⟩⟩ := wf_ex (T := T) (L := L) L 0 (by omega) (fun i hi => absurd hi (Nat.not_lt_zero _))
  · have hle := stp_le N h
    obtain ⟨_, a1, ⟨d, a2, a3, rfl⟩ | ⟨k1, d, a2, a3, a4, a5, rfl⟩⟩ := X1_play_good (Gt := Gt) hG hg hT2 hL hgL h hN h0
    · obtain ⟨_, b1, ⟨d2, G', b2, rfl, b3⟩ | ⟨k2, d2, G', b2, b3, b4, rfl, b5⟩⟩ := X5_harb_good (kc := kc) (w := w) (q := q) hG hg hgL hS hT hT2 hL h hN h0
      · rw [a2] at b2
        cases b2
        have e2 := X0_copyFrom (c := d) (d := c) (G := Gt) (Gt := Gn) a3.2.1 hG.2.1
        have hN1 : ¬ N ≤ 0 := by omega
        refine ⟨nI N, hs d Gn, hs d Gt, su g 1 0 (nI 0), hs d G', ?_, b1, d, d, kc, Gn, Gt, Gk, G', rfl, rfl, rfl, rfl, a3, a3.2.1, hK, b3⟩
        unfold f_X4_harbour f_X1_drop
        simp (disch := omega) only [gi_nI, tn_nI, hs_1, hs_2, hs_3, hs_4, hs_5, hs_6, hs_7, hs_s, hs_m, hs_h, hs_t, lit_nI, nI_add, nI_mul, nI_eq, nI_leI, nI_ltI, nm_j, bd_j, Nat.one_ne_zero, Nat.zero_ne_one, Nat.reduceEqDiff, Nat.reduceLeDiff, Nat.reduceLT, Nat.reduceAdd, Nat.reduceSub, Nat.reduceMul, e10, e01, en1, en2, en3, en4, en6, rq1, rq2, rq3, rq4, rq6, rm1, rm2, rm3, rm4, rm6, fz0, fz1, X5_bound_e, X5_isIn_e, Nat.lt_irrefl, Nat.le_refl, Nat.not_lt_zero, Nat.zero_le, n9a, n9b, n9c, n9d, n9e, n9f, n9g, e1, a1, hN1, e2, ↓reduceIte]
      · exfalso
        have := hh_n b4 (N - (k2 + 1))
        rw [show k2 + 1 + (N - (k2 + 1)) = N by omega, a2] at this
        cases this
    · obtain ⟨_, b1, ⟨d2, G', b2, rfl, b3⟩ | ⟨k2, d2, G', b2, b3, b4, rfl, b5⟩⟩ := X5_harb_good (kc := kc) (w := w) (q := q) hG hg hgL hS hT hT2 hL h hN h0
      · exfalso
        have := hh_n a4 (N - (k1 + 1))
        rw [show k1 + 1 + (N - (k1 + 1)) = N by omega, b2] at this
        cases this
      · have hkk : k1 = k2 := by
          rcases Nat.lt_trichotomy k1 k2 with hlt | heq | hgt
          · exfalso
            have := hh_n a4 (k2 - (k1 + 1))
            rw [show k1 + 1 + (k2 - (k1 + 1)) = k2 by omega, b3] at this
            cases this
          · exact heq
          · exfalso
            have := hh_n b4 (k1 - (k2 + 1))
            rw [show k2 + 1 + (k1 - (k2 + 1)) = k1 by omega, a3] at this
            cases this
        subst hkk
        have hlek := stp_le k1 (fun i hi => h i (by omega))
        have hneg := m2000 (stp T k1) (by omega)
        refine ⟨-nI 2000 - nI (stp T k1), hs c Gn, hs d Gt, su g 1 0 (nI 0), hs c G', ?_, b1, c, d, kc, Gn, Gt, Gk, G', rfl, rfl, rfl, rfl, hG, a5.2.1, hK, b5⟩
        unfold f_X4_harbour f_X1_drop
        simp (disch := omega) only [gi_nI, tn_nI, hs_1, hs_2, hs_3, hs_4, hs_5, hs_6, hs_7, hs_s, hs_m, hs_h, hs_t, lit_nI, nI_add, nI_mul, nI_eq, nI_leI, nI_ltI, nm_j, bd_j, Nat.one_ne_zero, Nat.zero_ne_one, Nat.reduceEqDiff, Nat.reduceLeDiff, Nat.reduceLT, Nat.reduceAdd, Nat.reduceSub, Nat.reduceMul, e10, e01, en1, en2, en3, en4, en6, rq1, rq2, rq3, rq4, rq6, rm1, rm2, rm3, rm4, rm6, fz0, fz1, X5_bound_e, X5_isIn_e, Nat.lt_irrefl, Nat.le_refl, Nat.not_lt_zero, Nat.zero_le, n9a, n9b, n9c, n9d, n9e, n9f, n9g, e1, a1, hneg, ↓reduceIte]
  · have hle := stp_le N h
    have he := er_le (T := T) (L := L) (k := N) hle.1
    have a1 := X1_play_bad (c := c) (Gt := Gt) hg hT2 hL hgL h hb hk
    obtain ⟨_, b1, G', rfl, b2⟩ := X5_harb_bad (c := c) hS hT hT2 hL h hb hk
    have hneg := m1000 (er T L N) (by omega)
    refine ⟨-nI 1000 - nI (er T L N), hs c Gn, hs c Gt, su g 1 0 (nI 0), hs c G', ?_, b1, c, c, kc, Gn, Gt, Gk, G', rfl, rfl, rfl, rfl, hG, hG.2.1, hK, b2⟩
    unfold f_X4_harbour f_X1_drop
    simp (disch := omega) only [gi_nI, tn_nI, hs_1, hs_2, hs_3, hs_4, hs_5, hs_6, hs_7, hs_s, hs_m, hs_h, hs_t, lit_nI, nI_add, nI_mul, nI_eq, nI_leI, nI_ltI, nm_j, bd_j, Nat.one_ne_zero, Nat.zero_ne_one, Nat.reduceEqDiff, Nat.reduceLeDiff, Nat.reduceLT, Nat.reduceAdd, Nat.reduceSub, Nat.reduceMul, e10, e01, en1, en2, en3, en4, en6, rq1, rq2, rq3, rq4, rq6, rm1, rm2, rm3, rm4, rm6, fz0, fz1, X5_bound_e, X5_isIn_e, Nat.lt_irrefl, Nat.le_refl, Nat.not_lt_zero, Nat.zero_le, n9a, n9b, n9c, n9d, n9e, n9f, n9g, e1, a1, hneg, ↓reduceIte]
