/-! KEEP, LOUDEST, SPREE -/
theorem lp_r {σ ρ : Type} {f : (σ → Option ρ) → σ → Option ρ} {s0 : σ} (I : Nat → σ → Prop) (Q : ρ → Prop) (N : Nat) (h0 : I 0 s0) (hs : ∀ j, j < N → ∀ s, I j s → (∃ s', I (j + 1) s' ∧ ∀ nx, f nx s = nx s') ∨ ∃ r, Q r ∧ ∀ nx, f nx s = some r) (he : ∀ s, I N s → ∃ r, Q r ∧ ∀ nx, f nx s = some r) {n : Nat} (hn : N < n) : ∃ r, lp f n s0 = some r ∧ Q r := by
  have key : ∀ d j n : Nat, j + d = N → d < n → ∀ s, I j s → ∃ r, lp f n s = some r ∧ Q r := by
    intro d
    induction d with
    | zero =>
      intro j n hj hn s hI
      obtain ⟨n, rfl⟩ : ∃ k, n = k + 1 := ⟨n - 1, by omega⟩
      have : j = N := by omega
      subst this
      obtain ⟨r, h1, h2⟩ := he s hI
      exact ⟨r, h2 _, h1⟩
    | succ d ih =>
      intro j n hj hn s hI
      obtain ⟨n, rfl⟩ : ∃ k, n = k + 1 := ⟨n - 1, by omega⟩
      rcases hs j (by omega) s hI with ⟨s', h1, h2⟩ | ⟨r, h1, h2⟩
      · obtain ⟨r, h3, h4⟩ := ih (j + 1) n (by omega) (by omega) s' h1
        refine ⟨r, ?_, h4⟩
        show f (lp f n) s = _
        rw [h2, h3]
      · exact ⟨r, h2 _, h1⟩
  exact key N 0 n (by omega) hn s0 h0
/-- who can tell -/
def can (c : G2) (m : Nat) : Prop := m < c 16 1 ∧ 0 < c 6 m ∧ c 3 (c 7 m) = 0
theorem can_tid {c : G2} {m : Nat} (h : can c m) : can (tid c) m := by
  obtain ⟨h1, h2, h3⟩ := h
  refine ⟨by rw [tid_o (by decide) (by decide) (by decide)]; exact h1, ?_, ?_⟩
  · rw [tid_e, td2_o (by decide)]
    unfold td1 swp
    rw [if_neg (fun z => z.2.2 h3), gu_a (by decide)]
    exact h2
  · rw [tid_o (i := 7) (by decide) (by decide) (by omega), tid_e]
    unfold td2 swp
    rw [if_neg (fun z => z.2.2 h3), td1_o (by decide) (by omega)]
    exact h3
theorem can_tds {c : G2} {m : Nat} (h : can c m) : ∀ n, can (tds c n) m
  | 0 => h
  | n + 1 => can_tid (can_tds h n)
theorem X4_lbw {c d : G2} {Gn Gt k g w z q : St} {m v : Nat} (hG : Gd c) (hd : Zc d) (hc : can c m) (hv : v ≤ 60) : f_X4_lacksBehindWord (hs c Gn) (hs d Gt) k g w z q (nI m) (nI v) = some (nI (lck (tel (tds c v) m) (c 7 m)), hs (tel (tds c v) m) Gt) := by
  have hI := hG.1
  have hT := hG.2.2.2.1
  have hN := hI.2.2.1
  have hN5 := hI.2.1
  have hm := hc.1
  have h7 := hI.2.2.2.2 m hm
  have hI2 := Iv_tds hI v (by omega)
  have hc2 := can_tds hc v
  have e1 := X0_copyFrom (G := Gn) (Gt := Gt) hG.2.1 hd
  have e2 := X0_passTides (G := Gt) (n := v) hI (by omega) (by omega)
  have e3 := X0_word (G := Gt) hI2 hc2.1 hc2.2.1 hc2.2.2
  have e4 : tel (tds c v) m 7 m = c 7 m := by rw [tel_o (by decide) (by decide) (by decide) (by omega), tds_o (by decide) (by decide) (by omega)]
  have e5 := X0_lacks (G := Gt) (Iv_tel (m := m) hI2) (show c 7 m < 5 by omega)
  unfold f_X4_lacksBehindWord
  simp (disch := omega) only [gi_nI, tn_nI, hs_1, hs_2, hs_3, hs_4, hs_5, hs_6, hs_7, hs_s, hs_m, hs_h, hs_t, lit_nI, nI_add, nI_mul, nI_eq, nI_leI, nI_ltI, nm_i, bd_s, Nat.one_ne_zero, Nat.zero_ne_one, Nat.reduceEqDiff, Nat.reduceLeDiff, Nat.reduceLT, Nat.reduceAdd, Nat.reduceSub, Nat.reduceMul, e10, e01, en1, en2, en3, en4, en6, rq1, rq2, rq3, rq4, rq6, rm1, rm2, rm3, rm4, rm6, fz0, fz1, X5_bound_e, X5_isIn_e, Nat.lt_irrefl, Nat.le_refl, Nat.not_lt_zero, Nat.zero_le, n9a, n9b, n9c, n9d, n9e, n9f, n9g, e1, e2, e3, e4, e5, ↓reduceIte]
theorem X5_lb {c kc : G2} {GM g w q : St} {m v : Nat} (hG : Gd c) (hS : Sx kc g w q GM) (hc : can c m) (hv : v ≤ 60) : ∃ G', f_X5_lacksBehind (hs c GM) (nI m) (nI v) = some (nI (lck (tel (tds c v) m) (c 7 m)), hs c G') ∧ Sx kc g w q G' := by
  have hI := hG.1
  have hT := hG.2.2.2.1
  have hN := hI.2.2.1
  have hN5 := hI.2.1
  have hm := hc.1
  have h7 := hI.2.2.2.2 m hm
  have hI2 := Iv_tds hI v (by omega)
  have hc2 := can_tds hc v
  obtain ⟨GT, t1, t2, t3⟩ := TF hS hG.2.1
  obtain ⟨G', t4, t5⟩ := t3 (tel (tds c v) m) (Zc_tel hI2 (Zc_tds hI hG.2.1 v (by omega)) (by omega)) GT rfl t2
  have e2 := X5_goes (G := GT) (n := v) hI (by omega) (by omega)
  have e3 := X5_tellsOne (G := GT) hI2 hc2.1 hc2.2.1
  have e4 : tel (tds c v) m 7 m = c 7 m := by rw [tel_o (by decide) (by decide) (by decide) (by omega), tds_o (by decide) (by decide) (by omega)]
  have e5 := X5_lacks (G := GT) (Iv_tel (m := m) hI2) (show c 7 m < 5 by omega)
  refine ⟨G', ?_, t5⟩
  unfold f_X5_lacksBehind
  simp (disch := omega) only [gi_nI, tn_nI, hs_1, hs_2, hs_3, hs_4, hs_5, hs_6, hs_7, hs_s, hs_m, hs_h, hs_t, lit_nI, nI_add, nI_mul, nI_eq, nI_leI, nI_ltI, nm_i, bd_s, Nat.one_ne_zero, Nat.zero_ne_one, Nat.reduceEqDiff, Nat.reduceLeDiff, Nat.reduceLT, Nat.reduceAdd, Nat.reduceSub, Nat.reduceMul, e10, e01, en1, en2, en3, en4, en6, rq1, rq2, rq3, rq4, rq6, rm1, rm2, rm3, rm4, rm6, fz0, fz1, X5_bound_e, X5_isIn_e, Nat.lt_irrefl, Nat.le_refl, Nat.not_lt_zero, Nat.zero_le, n9a, n9b, n9c, n9d, n9e, n9f, n9g, t1, e2, e3, e4, e5, t4, ↓reduceIte]
theorem r_keep {n t k g w z q M : St} (hR : R n t k g w z q M) (p1 : Int32) : ∃ r t' q' M', f_X4_keep n t k g w z q p1 = some (r, t', q') ∧ f_X5_keep M p1 = some (r, M') ∧ R n t' k g w z q' M' := by
  have hQ := hR
  unfold f_X4_keep f_X5_keep
  obtain ⟨c, ct, kc, Gn, Gt, Gk, GM, rfl, rfl, rfl, rfl, hG, hZ, hK, hS⟩ := hR
  have hI := hG.1
  have hT := hG.2.2.2.1
  have hN := hI.2.2.1
  rcases man_or hI p1 with ⟨m, hm, rfl⟩ | hn
  · have e1 := X0_hasMan (G := Gn) hI (show m < 2147483648 by omega)
    have e2 := X5_isMan (G := GM) hI (show m < 2147483648 by omega)
    rw [if_pos hm] at e1 e2
    rcases tell_or hI (show m < 2147483648 by omega) with ⟨hx, ht⟩ | ⟨hx, ht⟩
    · have e3 := (ht Gn).1
      have e4 := (ht GM).2
      have hI1 := Iv_tds hI 1 (by omega)
      have z0 : Zc (tel (tds c 0) m) := Zc_tel hI hG.2.1 (by omega)
      have z1 : Zc (tel (tds c 1) m) := Zc_tel hI1 (Zc_tds hI hG.2.1 1 (by omega)) (by omega)
      have a1 := X4_lbw (Gn := Gn) (Gt := Gt) (k := hs kc Gk) (g := g) (w := w) (z := z) (q := q) (v := 0) hG hZ hx (by omega)
      have a2 := X4_lbw (Gn := Gn) (Gt := Gt) (k := hs kc Gk) (g := g) (w := w) (z := z) (q := q) (v := 1) hG z0 hx (by omega)
      obtain ⟨G1, b1, b2⟩ := X5_lb (v := 0) hG hS hx (by omega)
      obtain ⟨G2', b3, b4⟩ := X5_lb (v := 1) hG b2 hx (by omega)
      have l0 := lck_le (s := c 7 m) (Iv_tel (m := m) (Iv_tds hI 0 (by omega)))
      have l1 := lck_le (s := c 7 m) (Iv_tel (m := m) hI1)
      by_cases h : lck (tel (tds c 1) m) (c 7 m) < lck (tel (tds c 0) m) (c 7 m)
      · refine ⟨nI 0, hs (tel (tds c 1) m) Gt, q, hs c G2', ?_, ?_, c, _, kc, Gn, Gt, Gk, G2', rfl, rfl, rfl, rfl, hG, z1, hK, b4⟩
        · simp (disch := omega) only [gi_nI, tn_nI, hs_1, hs_2, hs_3, hs_4, hs_5, hs_6, hs_7, hs_s, hs_m, hs_h, hs_t, lit_nI, nI_add, nI_mul, nI_eq, nI_leI, nI_ltI, nm_i, bd_s, Nat.one_ne_zero, Nat.zero_ne_one, Nat.reduceEqDiff, Nat.reduceLeDiff, Nat.reduceLT, Nat.reduceAdd, Nat.reduceSub, Nat.reduceMul, e10, e01, en1, en2, en3, en4, en6, rq1, rq2, rq3, rq4, rq6, rm1, rm2, rm3, rm4, rm6, fz0, fz1, X5_bound_e, X5_isIn_e, Nat.lt_irrefl, Nat.le_refl, Nat.not_lt_zero, Nat.zero_le, n9a, n9b, n9c, n9d, n9e, n9f, n9g, e1, e3, a1, a2, h, ↓reduceIte]
        · simp (disch := omega) only [gi_nI, tn_nI, hs_1, hs_2, hs_3, hs_4, hs_5, hs_6, hs_7, hs_s, hs_m, hs_h, hs_t, lit_nI, nI_add, nI_mul, nI_eq, nI_leI, nI_ltI, nm_i, bd_s, Nat.one_ne_zero, Nat.zero_ne_one, Nat.reduceEqDiff, Nat.reduceLeDiff, Nat.reduceLT, Nat.reduceAdd, Nat.reduceSub, Nat.reduceMul, e10, e01, en1, en2, en3, en4, en6, rq1, rq2, rq3, rq4, rq6, rm1, rm2, rm3, rm4, rm6, fz0, fz1, X5_bound_e, X5_isIn_e, Nat.lt_irrefl, Nat.le_refl, Nat.not_lt_zero, Nat.zero_le, n9a, n9b, n9c, n9d, n9e, n9f, n9g, e2, e4, b1, b3, h, ↓reduceIte]
      · refine ⟨nI 1, hs (tel (tds c 1) m) Gt, q, hs c G2', ?_, ?_, c, _, kc, Gn, Gt, Gk, G2', rfl, rfl, rfl, rfl, hG, z1, hK, b4⟩
        · simp (disch := omega) only [gi_nI, tn_nI, hs_1, hs_2, hs_3, hs_4, hs_5, hs_6, hs_7, hs_s, hs_m, hs_h, hs_t, lit_nI, nI_add, nI_mul, nI_eq, nI_leI, nI_ltI, nm_i, bd_s, Nat.one_ne_zero, Nat.zero_ne_one, Nat.reduceEqDiff, Nat.reduceLeDiff, Nat.reduceLT, Nat.reduceAdd, Nat.reduceSub, Nat.reduceMul, e10, e01, en1, en2, en3, en4, en6, rq1, rq2, rq3, rq4, rq6, rm1, rm2, rm3, rm4, rm6, fz0, fz1, X5_bound_e, X5_isIn_e, Nat.lt_irrefl, Nat.le_refl, Nat.not_lt_zero, Nat.zero_le, n9a, n9b, n9c, n9d, n9e, n9f, n9g, e1, e3, a1, a2, h, ↓reduceIte]
        · simp (disch := omega) only [gi_nI, tn_nI, hs_1, hs_2, hs_3, hs_4, hs_5, hs_6, hs_7, hs_s, hs_m, hs_h, hs_t, lit_nI, nI_add, nI_mul, nI_eq, nI_leI, nI_ltI, nm_i, bd_s, Nat.one_ne_zero, Nat.zero_ne_one, Nat.reduceEqDiff, Nat.reduceLeDiff, Nat.reduceLT, Nat.reduceAdd, Nat.reduceSub, Nat.reduceMul, e10, e01, en1, en2, en3, en4, en6, rq1, rq2, rq3, rq4, rq6, rm1, rm2, rm3, rm4, rm6, fz0, fz1, X5_bound_e, X5_isIn_e, Nat.lt_irrefl, Nat.le_refl, Nat.not_lt_zero, Nat.zero_le, n9a, n9b, n9c, n9d, n9e, n9f, n9g, e2, e4, b1, b3, h, ↓reduceIte]
    · have e3 := (ht Gn).1
      have e4 := (ht GM).2
      refine ⟨-nI 3, _, rf q 3, rf (hs c GM) 3, ?_, ?_, hQ.ref 3⟩
      · simp (disch := omega) only [gi_nI, tn_nI, hs_1, hs_2, hs_3, hs_4, hs_5, hs_6, hs_7, hs_s, hs_m, hs_h, hs_t, lit_nI, nI_add, nI_mul, nI_eq, nI_leI, nI_ltI, nm_i, bd_s, Nat.one_ne_zero, Nat.zero_ne_one, Nat.reduceEqDiff, Nat.reduceLeDiff, Nat.reduceLT, Nat.reduceAdd, Nat.reduceSub, Nat.reduceMul, e10, e01, en1, en2, en3, en4, en6, rq1, rq2, rq3, rq4, rq6, rm1, rm2, rm3, rm4, rm6, fz0, fz1, X5_bound_e, X5_isIn_e, Nat.lt_irrefl, Nat.le_refl, Nat.not_lt_zero, Nat.zero_le, n9a, n9b, n9c, n9d, n9e, n9f, n9g, e1, e3, ↓reduceIte]
      · simp (disch := omega) only [gi_nI, tn_nI, hs_1, hs_2, hs_3, hs_4, hs_5, hs_6, hs_7, hs_s, hs_m, hs_h, hs_t, lit_nI, nI_add, nI_mul, nI_eq, nI_leI, nI_ltI, nm_i, bd_s, Nat.one_ne_zero, Nat.zero_ne_one, Nat.reduceEqDiff, Nat.reduceLeDiff, Nat.reduceLT, Nat.reduceAdd, Nat.reduceSub, Nat.reduceMul, e10, e01, en1, en2, en3, en4, en6, rq1, rq2, rq3, rq4, rq6, rm1, rm2, rm3, rm4, rm6, fz0, fz1, X5_bound_e, X5_isIn_e, Nat.lt_irrefl, Nat.le_refl, Nat.not_lt_zero, Nat.zero_le, n9a, n9b, n9c, n9d, n9e, n9f, n9g, e2, e4, ↓reduceIte]
  · obtain ⟨e1, -⟩ := hn Gn
    obtain ⟨-, e2⟩ := hn GM
    refine ⟨-nI 1, _, rf q 1, rf (hs c GM) 1, ?_, ?_, hQ.ref 1⟩
    · simp (disch := omega) only [gi_nI, tn_nI, hs_1, hs_2, hs_3, hs_4, hs_5, hs_6, hs_7, hs_s, hs_m, hs_h, hs_t, lit_nI, nI_add, nI_mul, nI_eq, nI_leI, nI_ltI, nm_i, bd_s, Nat.one_ne_zero, Nat.zero_ne_one, Nat.reduceEqDiff, Nat.reduceLeDiff, Nat.reduceLT, Nat.reduceAdd, Nat.reduceSub, Nat.reduceMul, e10, e01, en1, en2, en3, en4, en6, rq1, rq2, rq3, rq4, rq6, rm1, rm2, rm3, rm4, rm6, fz0, fz1, X5_bound_e, X5_isIn_e, Nat.lt_irrefl, Nat.le_refl, Nat.not_lt_zero, Nat.zero_le, n9a, n9b, n9c, n9d, n9e, n9f, n9g, e1, ↓reduceIte]
    · simp (disch := omega) only [gi_nI, tn_nI, hs_1, hs_2, hs_3, hs_4, hs_5, hs_6, hs_7, hs_s, hs_m, hs_h, hs_t, lit_nI, nI_add, nI_mul, nI_eq, nI_leI, nI_ltI, nm_i, bd_s, Nat.one_ne_zero, Nat.zero_ne_one, Nat.reduceEqDiff, Nat.reduceLeDiff, Nat.reduceLT, Nat.reduceAdd, Nat.reduceSub, Nat.reduceMul, e10, e01, en1, en2, en3, en4, en6, rq1, rq2, rq3, rq4, rq6, rm1, rm2, rm3, rm4, rm6, fz0, fz1, X5_bound_e, X5_isIn_e, Nat.lt_irrefl, Nat.le_refl, Nat.not_lt_zero, Nat.zero_le, n9a, n9b, n9c, n9d, n9e, n9f, n9g, e2, ↓reduceIte]
/-! loudest -/
def lo (c : G2) : Nat → Int32 × Int32
  | 0 => (-nI 9, -nI 9)
  | j + 1 => if (0 < c 6 j ∧ c 3 (c 7 j) = 0) ∧ ¬ nI (tcn c j) ≤ (lo c j).2 then (nI j, nI (tcn c j)) else lo c j
theorem lo_t {c : G2} {j : Nat} (h : (0 < c 6 j ∧ c 3 (c 7 j) = 0) ∧ ¬ nI (tcn c j) ≤ (lo c j).2) : lo c (j + 1) = (nI j, nI (tcn c j)) := by simp only [lo]; rw [if_pos h]
theorem lo_f {c : G2} {j : Nat} (h : ¬ ((0 < c 6 j ∧ c 3 (c 7 j) = 0) ∧ ¬ nI (tcn c j) ≤ (lo c j).2)) : lo c (j + 1) = lo c j := by simp only [lo]; rw [if_neg h]
theorem rcJ_le {c : G2} : ∀ j, rcJ c j ≤ j
  | 0 => Nat.le_refl 0
  | j + 1 => by
    have := rcJ_le (c := c) j
    simp only [rcJ]
    split <;> omega
theorem tcn_le {c : G2} {m : Nat} (hI : Iv c) : tcn c m ≤ 5 := by
  have := rcJ_le (c := lsn c m) (c 16 0)
  have := hI.2.1
  unfold tcn
  omega
theorem lo_ge {c : G2} (hI : Iv c) : ∀ j, -nI 9 ≤ (lo c j).2
  | 0 => by
    show -nI 9 ≤ -nI 9
    rw [n9f]
    trivial
  | j + 1 => by
    by_cases h : (0 < c 6 j ∧ c 3 (c 7 j) = 0) ∧ ¬ nI (tcn c j) ≤ (lo c j).2
    · rw [lo_t h]
      have := tcn_le (m := j) hI
      show -nI 9 ≤ nI (tcn c j)
      rw [n9c (by omega)]
      trivial
    · rw [lo_f h]
      exact lo_ge hI j
theorem X5_risesBy {c kc : G2} {GM g w q : St} {m : Nat} (hG : Gd c) (hS : Sx kc g w q GM) (hc : can c m) : ∃ G', f_X5_risesBy (hs c GM) (nI m) = some (nI (tcn c m), hs c G') ∧ Sx kc g w q G' := by
  have hI := hG.1
  have hN := hI.2.2.1
  have hm := hc.1
  obtain ⟨GT, t1, t2, t3⟩ := TF hS hG.2.1
  obtain ⟨G', t4, t5⟩ := t3 (tel c m) (Zc_tel hI hG.2.1 (by omega)) GT rfl t2
  have e3 := X5_tellsOne (G := GT) hI hc.1 hc.2.1
  refine ⟨G', ?_, t5⟩
  unfold f_X5_risesBy
  simp (disch := omega) only [gi_nI, tn_nI, hs_1, hs_2, hs_3, hs_4, hs_5, hs_6, hs_7, hs_s, hs_m, hs_h, hs_t, lit_nI, nI_add, nI_mul, nI_eq, nI_leI, nI_ltI, nm_i, bd_s, Nat.one_ne_zero, Nat.zero_ne_one, Nat.reduceEqDiff, Nat.reduceLeDiff, Nat.reduceLT, Nat.reduceAdd, Nat.reduceSub, Nat.reduceMul, e10, e01, en1, en2, en3, en4, en6, rq1, rq2, rq3, rq4, rq6, rm1, rm2, rm3, rm4, rm6, fz0, fz1, X5_bound_e, X5_isIn_e, Nat.lt_irrefl, Nat.le_refl, Nat.not_lt_zero, Nat.zero_le, n9a, n9b, n9c, n9d, n9e, n9f, n9g, t1, e3, t4, ↓reduceIte]
theorem X4_loud {c ct : G2} {Gn Gt k g w z q : St} (hG : Gd c) (hZ : Zc ct) {p : Nat} (hp : p ≤ 1) : ∃ r, f_X4_loudest (hs c Gn) (hs ct Gt) k g w z q (nI p) = some r ∧ ∃ d, r = (if p = 0 then (lo c (c 16 1)).1 else (lo c (c 16 1)).2, hs d Gt, q) ∧ Zc d := by
  have hI := hG.1
  have hN := hI.2.2.1
  have key : ∀ j, j < c 16 1 → ∀ s : Int32 × Int32 × Int32 × St, (∃ d, s = ((lo c j).1, (lo c j).2, nI j, hs d Gt) ∧ Zc d) → True := fun _ _ _ _ => trivial
  unfold f_X4_loudest
  rcases (show p = 0 ∨ p = 1 by omega) with rfl | rfl
  · simp (disch := omega) only [gi_nI, tn_nI, hs_1, hs_2, hs_3, hs_4, hs_5, hs_6, hs_7, hs_s, hs_m, hs_h, hs_t, lit_nI, nI_add, nI_mul, nI_eq, nI_leI, nI_ltI, nm_i, bd_s, Nat.one_ne_zero, Nat.zero_ne_one, Nat.reduceEqDiff, Nat.reduceLeDiff, Nat.reduceLT, Nat.reduceAdd, Nat.reduceSub, Nat.reduceMul, e10, e01, en1, en2, en3, en4, en6, rq1, rq2, rq3, rq4, rq6, rm1, rm2, rm3, rm4, rm6, fz0, fz1, X5_bound_e, X5_isIn_e, Nat.lt_irrefl, Nat.le_refl, Nat.not_lt_zero, Nat.zero_le, n9a, n9b, n9c, n9d, n9e, n9f, n9g, ↓reduceIte]
    refine lp_r (fun j s => ∃ d, s = ((lo c j).1, (lo c j).2, nI j, hs d Gt) ∧ Zc d) _ (c 16 1) ⟨ct, rfl, hZ⟩ (fun j hj s hs1 => Or.inl ?_) (fun s hs1 => ?_) (by omega)
    · obtain ⟨d, rfl, hd⟩ := hs1
      have h1 : ¬ c 16 1 ≤ j := by omega
      have e1 := X0_copyFrom (G := Gn) (Gt := Gt) hG.2.1 hd
      rcases tell_or hI (show j < 2147483648 by omega) with ⟨hx, ht⟩ | ⟨hx, ht⟩
      · have e2 := (ht Gt).1
        have e3 := X0_word (G := Gt) hI hx.1 hx.2.1 hx.2.2
        by_cases h2 : nI (tcn c j) ≤ (lo c j).2
        · rw [lo_f (fun z => z.2 h2)]
          refine ⟨_, ⟨tel c j, rfl, Zc_tel hI hG.2.1 (by omega)⟩, fun nx => ?_⟩
          simp (disch := omega) only [gi_nI, tn_nI, hs_1, hs_2, hs_3, hs_4, hs_5, hs_6, hs_7, hs_s, hs_m, hs_h, hs_t, lit_nI, nI_add, nI_mul, nI_eq, nI_leI, nI_ltI, nm_i, bd_s, Nat.one_ne_zero, Nat.zero_ne_one, Nat.reduceEqDiff, Nat.reduceLeDiff, Nat.reduceLT, Nat.reduceAdd, Nat.reduceSub, Nat.reduceMul, e10, e01, en1, en2, en3, en4, en6, rq1, rq2, rq3, rq4, rq6, rm1, rm2, rm3, rm4, rm6, fz0, fz1, X5_bound_e, X5_isIn_e, Nat.lt_irrefl, Nat.le_refl, Nat.not_lt_zero, Nat.zero_le, n9a, n9b, n9c, n9d, n9e, n9f, n9g, h1, e1, e2, e3, h2, ↓reduceIte]
        · rw [lo_t ⟨hx.2, h2⟩]
          refine ⟨_, ⟨tel c j, rfl, Zc_tel hI hG.2.1 (by omega)⟩, fun nx => ?_⟩
          simp (disch := omega) only [gi_nI, tn_nI, hs_1, hs_2, hs_3, hs_4, hs_5, hs_6, hs_7, hs_s, hs_m, hs_h, hs_t, lit_nI, nI_add, nI_mul, nI_eq, nI_leI, nI_ltI, nm_i, bd_s, Nat.one_ne_zero, Nat.zero_ne_one, Nat.reduceEqDiff, Nat.reduceLeDiff, Nat.reduceLT, Nat.reduceAdd, Nat.reduceSub, Nat.reduceMul, e10, e01, en1, en2, en3, en4, en6, rq1, rq2, rq3, rq4, rq6, rm1, rm2, rm3, rm4, rm6, fz0, fz1, X5_bound_e, X5_isIn_e, Nat.lt_irrefl, Nat.le_refl, Nat.not_lt_zero, Nat.zero_le, n9a, n9b, n9c, n9d, n9e, n9f, n9g, h1, e1, e2, e3, h2, ↓reduceIte]
      · have e2 := (ht Gt).1
        rw [lo_f (fun z => hx ⟨hj, z.1⟩)]
        refine ⟨_, ⟨c, rfl, hG.2.1⟩, fun nx => ?_⟩
        have h2 := lo_ge hI j
        simp (disch := omega) only [gi_nI, tn_nI, hs_1, hs_2, hs_3, hs_4, hs_5, hs_6, hs_7, hs_s, hs_m, hs_h, hs_t, lit_nI, nI_add, nI_mul, nI_eq, nI_leI, nI_ltI, nm_i, bd_s, Nat.one_ne_zero, Nat.zero_ne_one, Nat.reduceEqDiff, Nat.reduceLeDiff, Nat.reduceLT, Nat.reduceAdd, Nat.reduceSub, Nat.reduceMul, e10, e01, en1, en2, en3, en4, en6, rq1, rq2, rq3, rq4, rq6, rm1, rm2, rm3, rm4, rm6, fz0, fz1, X5_bound_e, X5_isIn_e, Nat.lt_irrefl, Nat.le_refl, Nat.not_lt_zero, Nat.zero_le, n9a, n9b, n9c, n9d, n9e, n9f, n9g, h1, e1, e2, h2, ↓reduceIte]
    · obtain ⟨d, rfl, hd⟩ := hs1
      refine ⟨_, ⟨d, rfl, hd⟩, fun nx => ?_⟩
      simp (disch := omega) only [gi_nI, tn_nI, hs_1, hs_2, hs_3, hs_4, hs_5, hs_6, hs_7, hs_s, hs_m, hs_h, hs_t, lit_nI, nI_add, nI_mul, nI_eq, nI_leI, nI_ltI, nm_i, bd_s, Nat.one_ne_zero, Nat.zero_ne_one, Nat.reduceEqDiff, Nat.reduceLeDiff, Nat.reduceLT, Nat.reduceAdd, Nat.reduceSub, Nat.reduceMul, e10, e01, en1, en2, en3, en4, en6, rq1, rq2, rq3, rq4, rq6, rm1, rm2, rm3, rm4, rm6, fz0, fz1, X5_bound_e, X5_isIn_e, Nat.lt_irrefl, Nat.le_refl, Nat.not_lt_zero, Nat.zero_le, n9a, n9b, n9c, n9d, n9e, n9f, n9g, ↓reduceIte]
  · simp (disch := omega) only [gi_nI, tn_nI, hs_1, hs_2, hs_3, hs_4, hs_5, hs_6, hs_7, hs_s, hs_m, hs_h, hs_t, lit_nI, nI_add, nI_mul, nI_eq, nI_leI, nI_ltI, nm_i, bd_s, Nat.one_ne_zero, Nat.zero_ne_one, Nat.reduceEqDiff, Nat.reduceLeDiff, Nat.reduceLT, Nat.reduceAdd, Nat.reduceSub, Nat.reduceMul, e10, e01, en1, en2, en3, en4, en6, rq1, rq2, rq3, rq4, rq6, rm1, rm2, rm3, rm4, rm6, fz0, fz1, X5_bound_e, X5_isIn_e, Nat.lt_irrefl, Nat.le_refl, Nat.not_lt_zero, Nat.zero_le, n9a, n9b, n9c, n9d, n9e, n9f, n9g, ↓reduceIte]
    refine lp_r (fun j s => ∃ d, s = ((lo c j).1, (lo c j).2, nI j, hs d Gt) ∧ Zc d) _ (c 16 1) ⟨ct, rfl, hZ⟩ (fun j hj s hs1 => Or.inl ?_) (fun s hs1 => ?_) (by omega)
    · obtain ⟨d, rfl, hd⟩ := hs1
      have h1 : ¬ c 16 1 ≤ j := by omega
      have e1 := X0_copyFrom (G := Gn) (Gt := Gt) hG.2.1 hd
      rcases tell_or hI (show j < 2147483648 by omega) with ⟨hx, ht⟩ | ⟨hx, ht⟩
      · have e2 := (ht Gt).1
        have e3 := X0_word (G := Gt) hI hx.1 hx.2.1 hx.2.2
        by_cases h2 : nI (tcn c j) ≤ (lo c j).2
        · rw [lo_f (fun z => z.2 h2)]
          refine ⟨_, ⟨tel c j, rfl, Zc_tel hI hG.2.1 (by omega)⟩, fun nx => ?_⟩
          simp (disch := omega) only [gi_nI, tn_nI, hs_1, hs_2, hs_3, hs_4, hs_5, hs_6, hs_7, hs_s, hs_m, hs_h, hs_t, lit_nI, nI_add, nI_mul, nI_eq, nI_leI, nI_ltI, nm_i, bd_s, Nat.one_ne_zero, Nat.zero_ne_one, Nat.reduceEqDiff, Nat.reduceLeDiff, Nat.reduceLT, Nat.reduceAdd, Nat.reduceSub, Nat.reduceMul, e10, e01, en1, en2, en3, en4, en6, rq1, rq2, rq3, rq4, rq6, rm1, rm2, rm3, rm4, rm6, fz0, fz1, X5_bound_e, X5_isIn_e, Nat.lt_irrefl, Nat.le_refl, Nat.not_lt_zero, Nat.zero_le, n9a, n9b, n9c, n9d, n9e, n9f, n9g, h1, e1, e2, e3, h2, ↓reduceIte]
        · rw [lo_t ⟨hx.2, h2⟩]
          refine ⟨_, ⟨tel c j, rfl, Zc_tel hI hG.2.1 (by omega)⟩, fun nx => ?_⟩
          simp (disch := omega) only [gi_nI, tn_nI, hs_1, hs_2, hs_3, hs_4, hs_5, hs_6, hs_7, hs_s, hs_m, hs_h, hs_t, lit_nI, nI_add, nI_mul, nI_eq, nI_leI, nI_ltI, nm_i, bd_s, Nat.one_ne_zero, Nat.zero_ne_one, Nat.reduceEqDiff, Nat.reduceLeDiff, Nat.reduceLT, Nat.reduceAdd, Nat.reduceSub, Nat.reduceMul, e10, e01, en1, en2, en3, en4, en6, rq1, rq2, rq3, rq4, rq6, rm1, rm2, rm3, rm4, rm6, fz0, fz1, X5_bound_e, X5_isIn_e, Nat.lt_irrefl, Nat.le_refl, Nat.not_lt_zero, Nat.zero_le, n9a, n9b, n9c, n9d, n9e, n9f, n9g, h1, e1, e2, e3, h2, ↓reduceIte]
      · have e2 := (ht Gt).1
        rw [lo_f (fun z => hx ⟨hj, z.1⟩)]
        refine ⟨_, ⟨c, rfl, hG.2.1⟩, fun nx => ?_⟩
        have h2 := lo_ge hI j
        simp (disch := omega) only [gi_nI, tn_nI, hs_1, hs_2, hs_3, hs_4, hs_5, hs_6, hs_7, hs_s, hs_m, hs_h, hs_t, lit_nI, nI_add, nI_mul, nI_eq, nI_leI, nI_ltI, nm_i, bd_s, Nat.one_ne_zero, Nat.zero_ne_one, Nat.reduceEqDiff, Nat.reduceLeDiff, Nat.reduceLT, Nat.reduceAdd, Nat.reduceSub, Nat.reduceMul, e10, e01, en1, en2, en3, en4, en6, rq1, rq2, rq3, rq4, rq6, rm1, rm2, rm3, rm4, rm6, fz0, fz1, X5_bound_e, X5_isIn_e, Nat.lt_irrefl, Nat.le_refl, Nat.not_lt_zero, Nat.zero_le, n9a, n9b, n9c, n9d, n9e, n9f, n9g, h1, e1, e2, h2, ↓reduceIte]
    · obtain ⟨d, rfl, hd⟩ := hs1
      refine ⟨_, ⟨d, rfl, hd⟩, fun nx => ?_⟩
      simp (disch := omega) only [gi_nI, tn_nI, hs_1, hs_2, hs_3, hs_4, hs_5, hs_6, hs_7, hs_s, hs_m, hs_h, hs_t, lit_nI, nI_add, nI_mul, nI_eq, nI_leI, nI_ltI, nm_i, bd_s, Nat.one_ne_zero, Nat.zero_ne_one, Nat.reduceEqDiff, Nat.reduceLeDiff, Nat.reduceLT, Nat.reduceAdd, Nat.reduceSub, Nat.reduceMul, e10, e01, en1, en2, en3, en4, en6, rq1, rq2, rq3, rq4, rq6, rm1, rm2, rm3, rm4, rm6, fz0, fz1, X5_bound_e, X5_isIn_e, Nat.lt_irrefl, Nat.le_refl, Nat.not_lt_zero, Nat.zero_le, n9a, n9b, n9c, n9d, n9e, n9f, n9g, ↓reduceIte]
theorem X5_loud {c kc : G2} {GM g w q : St} (hG : Gd c) (hS : Sx kc g w q GM) {p : Nat} (hp : p ≤ 1) : ∃ r, f_X5_loudest (hs c GM) (nI p) = some r ∧ ∃ G', r = (if p = 0 then (lo c (c 16 1)).1 else (lo c (c 16 1)).2, hs c G') ∧ Sx kc g w q G' := by
  have hI := hG.1
  have hN := hI.2.2.1
  unfold f_X5_loudest
  have hp1 : ¬ 1 < p := by omega
  simp (disch := omega) only [gi_nI, tn_nI, hs_1, hs_2, hs_3, hs_4, hs_5, hs_6, hs_7, hs_s, hs_m, hs_h, hs_t, lit_nI, nI_add, nI_mul, nI_eq, nI_leI, nI_ltI, nm_i, bd_s, Nat.one_ne_zero, Nat.zero_ne_one, Nat.reduceEqDiff, Nat.reduceLeDiff, Nat.reduceLT, Nat.reduceAdd, Nat.reduceSub, Nat.reduceMul, e10, e01, en1, en2, en3, en4, en6, rq1, rq2, rq3, rq4, rq6, rm1, rm2, rm3, rm4, rm6, fz0, fz1, X5_bound_e, X5_isIn_e, Nat.lt_irrefl, Nat.le_refl, Nat.not_lt_zero, Nat.zero_le, n9a, n9b, n9c, n9d, n9e, n9f, n9g, hp1, ↓reduceIte]
  refine lp_r (fun j s => ∃ G', s = ((lo c j).1, (lo c j).2, nI j, hs c G') ∧ Sx kc g w q G') _ (c 16 1) ⟨GM, rfl, hS⟩ (fun j hj s hs1 => Or.inl ?_) (fun s hs1 => ?_) (by omega)
  · obtain ⟨G1, rfl, hd⟩ := hs1
    have h1 : ¬ c 16 1 ≤ j := by omega
    rcases tell_or hI (show j < 2147483648 by omega) with ⟨hx, ht⟩ | ⟨hx, ht⟩
    · have e2 := (ht G1).2
      obtain ⟨G2', e3, e4⟩ := X5_risesBy hG hd hx
      by_cases h2 : nI (tcn c j) ≤ (lo c j).2
      · rw [lo_f (fun z => z.2 h2)]
        have h3 : ¬ (lo c j).2 < nI (tcn c j) := Int32.not_lt.mpr h2
        refine ⟨_, ⟨G2', rfl, e4⟩, fun nx => ?_⟩
        simp (disch := omega) only [gi_nI, tn_nI, hs_1, hs_2, hs_3, hs_4, hs_5, hs_6, hs_7, hs_s, hs_m, hs_h, hs_t, lit_nI, nI_add, nI_mul, nI_eq, nI_leI, nI_ltI, nm_i, bd_s, Nat.one_ne_zero, Nat.zero_ne_one, Nat.reduceEqDiff, Nat.reduceLeDiff, Nat.reduceLT, Nat.reduceAdd, Nat.reduceSub, Nat.reduceMul, e10, e01, en1, en2, en3, en4, en6, rq1, rq2, rq3, rq4, rq6, rm1, rm2, rm3, rm4, rm6, fz0, fz1, X5_bound_e, X5_isIn_e, Nat.lt_irrefl, Nat.le_refl, Nat.not_lt_zero, Nat.zero_le, n9a, n9b, n9c, n9d, n9e, n9f, n9g, h1, e2, e3, h3, ↓reduceIte]
      · rw [lo_t ⟨hx.2, h2⟩]
        have h3 : (lo c j).2 < nI (tcn c j) := Int32.not_le.mp h2
        refine ⟨_, ⟨G2', rfl, e4⟩, fun nx => ?_⟩
        simp (disch := omega) only [gi_nI, tn_nI, hs_1, hs_2, hs_3, hs_4, hs_5, hs_6, hs_7, hs_s, hs_m, hs_h, hs_t, lit_nI, nI_add, nI_mul, nI_eq, nI_leI, nI_ltI, nm_i, bd_s, Nat.one_ne_zero, Nat.zero_ne_one, Nat.reduceEqDiff, Nat.reduceLeDiff, Nat.reduceLT, Nat.reduceAdd, Nat.reduceSub, Nat.reduceMul, e10, e01, en1, en2, en3, en4, en6, rq1, rq2, rq3, rq4, rq6, rm1, rm2, rm3, rm4, rm6, fz0, fz1, X5_bound_e, X5_isIn_e, Nat.lt_irrefl, Nat.le_refl, Nat.not_lt_zero, Nat.zero_le, n9a, n9b, n9c, n9d, n9e, n9f, n9g, h1, e2, e3, h3, ↓reduceIte]
    · have e2 := (ht G1).2
      rw [lo_f (fun z => hx ⟨hj, z.1⟩)]
      refine ⟨_, ⟨G1, rfl, hd⟩, fun nx => ?_⟩
      have h2 : ¬ (lo c j).2 < -nI 9 := Int32.not_lt.mpr (lo_ge hI j)
      simp (disch := omega) only [gi_nI, tn_nI, hs_1, hs_2, hs_3, hs_4, hs_5, hs_6, hs_7, hs_s, hs_m, hs_h, hs_t, lit_nI, nI_add, nI_mul, nI_eq, nI_leI, nI_ltI, nm_i, bd_s, Nat.one_ne_zero, Nat.zero_ne_one, Nat.reduceEqDiff, Nat.reduceLeDiff, Nat.reduceLT, Nat.reduceAdd, Nat.reduceSub, Nat.reduceMul, e10, e01, en1, en2, en3, en4, en6, rq1, rq2, rq3, rq4, rq6, rm1, rm2, rm3, rm4, rm6, fz0, fz1, X5_bound_e, X5_isIn_e, Nat.lt_irrefl, Nat.le_refl, Nat.not_lt_zero, Nat.zero_le, n9a, n9b, n9c, n9d, n9e, n9f, n9g, h1, e2, h2, ↓reduceIte]
  · obtain ⟨G1, rfl, hd⟩ := hs1
    refine ⟨_, ⟨G1, rfl, hd⟩, fun nx => ?_⟩
    simp (disch := omega) only [gi_nI, tn_nI, hs_1, hs_2, hs_3, hs_4, hs_5, hs_6, hs_7, hs_s, hs_m, hs_h, hs_t, lit_nI, nI_add, nI_mul, nI_eq, nI_leI, nI_ltI, nm_i, bd_s, Nat.one_ne_zero, Nat.zero_ne_one, Nat.reduceEqDiff, Nat.reduceLeDiff, Nat.reduceLT, Nat.reduceAdd, Nat.reduceSub, Nat.reduceMul, e10, e01, en1, en2, en3, en4, en6, rq1, rq2, rq3, rq4, rq6, rm1, rm2, rm3, rm4, rm6, fz0, fz1, X5_bound_e, X5_isIn_e, Nat.lt_irrefl, Nat.le_refl, Nat.not_lt_zero, Nat.zero_le, n9a, n9b, n9c, n9d, n9e, n9f, n9g, ↓reduceIte]
    by_cases h : p = 0 <;> simp only [h, ↓reduceIte]
theorem r_loudest {n t k g w z q M : St} (hR : R n t k g w z q M) (p1 : Int32) : ∃ r t' q' M', f_X4_loudest n t k g w z q p1 = some (r, t', q') ∧ f_X5_loudest M p1 = some (r, M') ∧ R n t' k g w z q' M' := by
  have hQ := hR
  obtain ⟨c, ct, kc, Gn, Gt, Gk, GM, rfl, rfl, rfl, rfl, hG, hZ, hK, hS⟩ := hR
  have main : ∀ p, p ≤ 1 → ∃ r t' q' M', f_X4_loudest (hs c Gn) (hs ct Gt) (hs kc Gk) g w z q (nI p) = some (r, t', q') ∧ f_X5_loudest (hs c GM) (nI p) = some (r, M') ∧ R (hs c Gn) t' (hs kc Gk) g w z q' M' := by
    intro p hp
    obtain ⟨_, h1, d, rfl, h2⟩ := X4_loud (Gn := Gn) (Gt := Gt) (k := hs kc Gk) (g := g) (w := w) (z := z) (q := q) hG hZ hp
    obtain ⟨_, h3, G', rfl, h4⟩ := X5_loud hG hS hp
    exact ⟨_, _, q, _, h1, h3, c, d, kc, Gn, Gt, Gk, G', rfl, rfl, rfl, rfl, hG, h2, hK, h4⟩
  rcases wh01 p1 with rfl | rfl | ⟨w1, w2, w3⟩
  · exact main 0 (by omega)
  · exact main 1 (by omega)
  · refine ⟨-nI 2, _, rf q 2, rf (hs c GM) 2, ?_, ?_, hQ.ref 2⟩
    · unfold f_X4_loudest
      simp (disch := omega) only [gi_nI, tn_nI, hs_1, hs_2, hs_3, hs_4, hs_5, hs_6, hs_7, hs_s, hs_m, hs_h, hs_t, lit_nI, nI_add, nI_mul, nI_eq, nI_leI, nI_ltI, nm_i, bd_s, Nat.one_ne_zero, Nat.zero_ne_one, Nat.reduceEqDiff, Nat.reduceLeDiff, Nat.reduceLT, Nat.reduceAdd, Nat.reduceSub, Nat.reduceMul, e10, e01, en1, en2, en3, en4, en6, rq1, rq2, rq3, rq4, rq6, rm1, rm2, rm3, rm4, rm6, fz0, fz1, X5_bound_e, X5_isIn_e, Nat.lt_irrefl, Nat.le_refl, Nat.not_lt_zero, Nat.zero_le, n9a, n9b, n9c, n9d, n9e, n9f, n9g, w1, w2, ↓reduceIte]
    · unfold f_X5_loudest
      simp (disch := omega) only [gi_nI, tn_nI, hs_1, hs_2, hs_3, hs_4, hs_5, hs_6, hs_7, hs_s, hs_m, hs_h, hs_t, lit_nI, nI_add, nI_mul, nI_eq, nI_leI, nI_ltI, nm_i, bd_s, Nat.one_ne_zero, Nat.zero_ne_one, Nat.reduceEqDiff, Nat.reduceLeDiff, Nat.reduceLT, Nat.reduceAdd, Nat.reduceSub, Nat.reduceMul, e10, e01, en1, en2, en3, en4, en6, rq1, rq2, rq3, rq4, rq6, rm1, rm2, rm3, rm4, rm6, fz0, fz1, X5_bound_e, X5_isIn_e, Nat.lt_irrefl, Nat.le_refl, Nat.not_lt_zero, Nat.zero_le, n9a, n9b, n9c, n9d, n9e, n9f, n9g, w3, ↓reduceIte]
