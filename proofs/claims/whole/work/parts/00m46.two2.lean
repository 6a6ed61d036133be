/-! TWO, the call -/
def tBd (c : G2) (a b x y : Nat) : Decidable (tB c a b x y) := by
  unfold tB
  exact inferInstance
def gN (c : G2) (p a b x y : Nat) : Int32 := @gn c p a b x y (tBd c a b x y)
theorem lp_s {σ ρ : Type} {f : (σ → Option ρ) → σ → Option ρ} {n : Nat} {s : σ} : lp f (n + 1) s = f (lp f n) s := eq_of_heq (HEq.refl _)
theorem lp_u0 {σ ρ : Type} {f : (σ → Option ρ) → σ → Option ρ} {s : σ} : lp f 1000 s = f (lp f 999) s := lp_s
theorem lp_u1 {σ ρ : Type} {f : (σ → Option ρ) → σ → Option ρ} {s : σ} : lp f 999 s = f (lp f 998) s := lp_s
theorem lp_u2 {σ ρ : Type} {f : (σ → Option ρ) → σ → Option ρ} {s : σ} : lp f 998 s = f (lp f 997) s := lp_s
theorem lp_u3 {σ ρ : Type} {f : (σ → Option ρ) → σ → Option ρ} {s : σ} : lp f 997 s = f (lp f 996) s := lp_s
theorem lp_u4 {σ ρ : Type} {f : (σ → Option ρ) → σ → Option ρ} {s : σ} : lp f 996 s = f (lp f 995) s := lp_s
theorem fzp0 {α : Type} {m : α} : fzp (some (nI 0, m)) = some (nI 0, m) := by simp [fzp, bd, gd, nI]
theorem fzp1 {α : Type} {m : α} : fzp (some (nI 1, m)) = some (nI 1, m) := by simp [fzp, bd, gd, nI]
def sT (c : G2) (a b x y : Nat) : Prop := ¬ gN c a a b x y < gN c a a b (1 - x) y ∧ ¬ gN c b a b x y < gN c b a b x (1 - y)
def sTd (c : G2) (a b x y : Nat) : Decidable (sT c a b x y) := by
  unfold sT
  exact inferInstance
theorem X4_st {c d : G2} {Gn Gt k g w z q : St} {a b x y : Nat} (hG : Gd c) (hd : Zc d) (ha : can c a) (hb : b < c 16 1) (hx : x ≤ 1) (hy : y ≤ 1) : ∃ d', f_X4_isSettled (hs c Gn) (hs d Gt) k g w z q (nI a) (nI b) (nI x) (nI y) = some (@ite _ (sT c a b x y) (sTd c a b x y) (nI 1) (nI 0), hs d' Gt) ∧ Zc d' := by
  have hN := hG.1.2.2.1
  have z1 := (Hd_tV (b := b) (x := x) (y := y) hG.hd ha.1).2.1
  have z2 := (Hd_tV (b := b) (x := 1 - x) (y := y) hG.hd ha.1).2.1
  have z4 := (Hd_tV (b := b) (x := x) (y := 1 - y) hG.hd ha.1).2.1
  have g1 := @X4_gain c d Gn Gt k g w z q a a b x y (tBd c a b x y) hG hd ha hb (Or.inl rfl) hx hy
  have g2 := @X4_gain c (tV c a b x y) Gn Gt k g w z q a a b (1 - x) y (tBd c a b (1 - x) y) hG z1 ha hb (Or.inl rfl) (by omega) hy
  have g3 := @X4_gain c (tV c a b (1 - x) y) Gn Gt k g w z q b a b x y (tBd c a b x y) hG z2 ha hb (Or.inr rfl) hx hy
  have g4 := @X4_gain c (tV c a b x y) Gn Gt k g w z q b a b x (1 - y) (tBd c a b x (1 - y)) hG z1 ha hb (Or.inr rfl) hx (by omega)
  change _ = some (gN c a a b x y, _) at g1
  change _ = some (gN c a a b (1 - x) y, _) at g2
  change _ = some (gN c b a b x y, _) at g3
  change _ = some (gN c b a b x (1 - y), _) at g4
  unfold f_X4_isSettled
  by_cases h1 : gN c a a b x y < gN c a a b (1 - x) y
  · have hn : ¬ sT c a b x y := fun z => z.1 h1
    refine ⟨_, ?_, z2⟩
    rw [if_neg hn]
    simp (disch := omega) only [gi_nI, tn_nI, hs_1, hs_2, hs_3, hs_4, hs_5, hs_6, hs_7, hs_s, hs_m, hs_h, hs_t, lit_nI, nI_add, nI_mul, nI_eq, nI_leI, nI_ltI, nm_j, bd_j, Nat.one_ne_zero, Nat.zero_ne_one, Nat.reduceEqDiff, Nat.reduceLeDiff, Nat.reduceLT, Nat.reduceAdd, Nat.reduceSub, Nat.reduceMul, e10, e01, en1, en2, en3, en4, en6, rq1, rq2, rq3, rq4, rq6, rm1, rm2, rm3, rm4, rm6, fz0, fz1, X5_bound_e, X5_isIn_e, Nat.lt_irrefl, Nat.le_refl, Nat.not_lt_zero, Nat.zero_le, n9a, n9b, n9c, n9d, n9e, n9f, n9g, nI_sub, g1, g2, h1, fzp0, ↓reduceIte]
  · by_cases h2 : gN c b a b x y < gN c b a b x (1 - y)
    · have hn : ¬ sT c a b x y := fun z => z.2 h2
      refine ⟨_, ?_, z4⟩
      rw [if_neg hn]
      simp (disch := omega) only [gi_nI, tn_nI, hs_1, hs_2, hs_3, hs_4, hs_5, hs_6, hs_7, hs_s, hs_m, hs_h, hs_t, lit_nI, nI_add, nI_mul, nI_eq, nI_leI, nI_ltI, nm_j, bd_j, Nat.one_ne_zero, Nat.zero_ne_one, Nat.reduceEqDiff, Nat.reduceLeDiff, Nat.reduceLT, Nat.reduceAdd, Nat.reduceSub, Nat.reduceMul, e10, e01, en1, en2, en3, en4, en6, rq1, rq2, rq3, rq4, rq6, rm1, rm2, rm3, rm4, rm6, fz0, fz1, X5_bound_e, X5_isIn_e, Nat.lt_irrefl, Nat.le_refl, Nat.not_lt_zero, Nat.zero_le, n9a, n9b, n9c, n9d, n9e, n9f, n9g, nI_sub, g1, g2, h1, g3, g4, h2, fzp0, ↓reduceIte]
    · have hn : sT c a b x y := ⟨h1, h2⟩
      refine ⟨_, ?_, z4⟩
      rw [if_pos hn]
      simp (disch := omega) only [gi_nI, tn_nI, hs_1, hs_2, hs_3, hs_4, hs_5, hs_6, hs_7, hs_s, hs_m, hs_h, hs_t, lit_nI, nI_add, nI_mul, nI_eq, nI_leI, nI_ltI, nm_j, bd_j, Nat.one_ne_zero, Nat.zero_ne_one, Nat.reduceEqDiff, Nat.reduceLeDiff, Nat.reduceLT, Nat.reduceAdd, Nat.reduceSub, Nat.reduceMul, e10, e01, en1, en2, en3, en4, en6, rq1, rq2, rq3, rq4, rq6, rm1, rm2, rm3, rm4, rm6, fz0, fz1, X5_bound_e, X5_isIn_e, Nat.lt_irrefl, Nat.le_refl, Nat.not_lt_zero, Nat.zero_le, n9a, n9b, n9c, n9d, n9e, n9f, n9g, nI_sub, g1, g2, h1, g3, g4, h2, fzp1, ↓reduceIte]
theorem X4_two {c ct : G2} {Gn Gt k g w z q : St} {a b : Nat} (hG : Gd c) (hZ : Zc ct) (ha : can c a) (hb : can c b) (hab : a ≠ b) : ∃ r, f_X4_two (hs c Gn) (hs ct Gt) k g w z q (nI a) (nI b) = some r ∧ ∃ d, (∃ v, r = (v, hs d Gt, q) ∧ ((sT c a b 0 0 ∧ v = nI 0) ∨ (¬ sT c a b 0 0 ∧ sT c a b 0 1 ∧ v = nI 1) ∨ (¬ sT c a b 0 0 ∧ ¬ sT c a b 0 1 ∧ sT c a b 1 0 ∧ v = nI 10) ∨ (¬ sT c a b 0 0 ∧ ¬ sT c a b 0 1 ∧ ¬ sT c a b 1 0 ∧ sT c a b 1 1 ∧ v = nI 11) ∨ (¬ sT c a b 0 0 ∧ ¬ sT c a b 0 1 ∧ ¬ sT c a b 1 0 ∧ ¬ sT c a b 1 1 ∧ v = -nI 9))) ∧ Zc d := by
  have hI := hG.1
  have hN := hI.2.2.1
  have ha1 := ha.1
  have hb1 := hb.1
  have e1 := X0_hasMan (G := Gn) hI (show a < 2147483648 by omega)
  have e2 := X0_hasMan (G := Gn) hI (show b < 2147483648 by omega)
  rw [if_pos ha1] at e1
  rw [if_pos hb1] at e2
  have e3 := X0_canTell (G := Gn) hI (show a < 2147483648 by omega)
  have e4 := X0_canTell (G := Gn) hI (show b < 2147483648 by omega)
  rw [if_pos (show a < c 16 1 ∧ 0 < c 6 a ∧ c 3 (c 7 a) = 0 from ha)] at e3
  rw [if_pos (show b < c 16 1 ∧ 0 < c 6 b ∧ c 3 (c 7 b) = 0 from hb)] at e4
  unfold f_X4_two
  simp (disch := omega) only [gi_nI, tn_nI, hs_1, hs_2, hs_3, hs_4, hs_5, hs_6, hs_7, hs_s, hs_m, hs_h, hs_t, lit_nI, nI_add, nI_mul, nI_eq, nI_leI, nI_ltI, nm_j, bd_j, Nat.one_ne_zero, Nat.zero_ne_one, Nat.reduceEqDiff, Nat.reduceLeDiff, Nat.reduceLT, Nat.reduceAdd, Nat.reduceSub, Nat.reduceMul, e10, e01, en1, en2, en3, en4, en6, rq1, rq2, rq3, rq4, rq6, rm1, rm2, rm3, rm4, rm6, fz0, fz1, X5_bound_e, X5_isIn_e, Nat.lt_irrefl, Nat.le_refl, Nat.not_lt_zero, Nat.zero_le, n9a, n9b, n9c, n9d, n9e, n9f, n9g, e1, e2, e3, e4, hab, ↓reduceIte]
  obtain ⟨d1, s1, z1⟩ := X4_st (Gn := Gn) (Gt := Gt) (k := k) (g := g) (w := w) (z := z) (q := q) (x := 0) (y := 0) hG hZ ha hb1 (by decide) (by decide)
  obtain ⟨d2, s2, z2⟩ := X4_st (Gn := Gn) (Gt := Gt) (k := k) (g := g) (w := w) (z := z) (q := q) (x := 0) (y := 1) hG z1 ha hb1 (by decide) (by decide)
  obtain ⟨d3, s3, z3⟩ := X4_st (Gn := Gn) (Gt := Gt) (k := k) (g := g) (w := w) (z := z) (q := q) (x := 1) (y := 0) hG z2 ha hb1 (by decide) (by decide)
  obtain ⟨d4, s4, z4⟩ := X4_st (Gn := Gn) (Gt := Gt) (k := k) (g := g) (w := w) (z := z) (q := q) (x := 1) (y := 1) hG z3 ha hb1 (by decide) (by decide)
  by_cases h1 : sT c a b 0 0
  · rw [if_pos h1] at s1
    refine ⟨_, ?_, d1, ⟨nI 0, rfl, Or.inl ⟨h1, rfl⟩⟩, z1⟩
    simp (disch := omega) only [gi_nI, tn_nI, hs_1, hs_2, hs_3, hs_4, hs_5, hs_6, hs_7, hs_s, hs_m, hs_h, hs_t, lit_nI, nI_add, nI_mul, nI_eq, nI_leI, nI_ltI, nm_j, bd_j, Nat.one_ne_zero, Nat.zero_ne_one, Nat.reduceEqDiff, Nat.reduceLeDiff, Nat.reduceLT, Nat.reduceAdd, Nat.reduceSub, Nat.reduceMul, e10, e01, en1, en2, en3, en4, en6, rq1, rq2, rq3, rq4, rq6, rm1, rm2, rm3, rm4, rm6, fz0, fz1, X5_bound_e, X5_isIn_e, Nat.lt_irrefl, Nat.le_refl, Nat.not_lt_zero, Nat.zero_le, n9a, n9b, n9c, n9d, n9e, n9f, n9g, lp_u0, lp_u1, lp_u2, s1, ↓reduceIte]
  · rw [if_neg h1] at s1
    by_cases h2 : sT c a b 0 1
    · rw [if_pos h2] at s2
      refine ⟨_, ?_, d2, ⟨nI 1, rfl, Or.inr (Or.inl ⟨h1, h2, rfl⟩)⟩, z2⟩
      simp (disch := omega) only [gi_nI, tn_nI, hs_1, hs_2, hs_3, hs_4, hs_5, hs_6, hs_7, hs_s, hs_m, hs_h, hs_t, lit_nI, nI_add, nI_mul, nI_eq, nI_leI, nI_ltI, nm_j, bd_j, Nat.one_ne_zero, Nat.zero_ne_one, Nat.reduceEqDiff, Nat.reduceLeDiff, Nat.reduceLT, Nat.reduceAdd, Nat.reduceSub, Nat.reduceMul, e10, e01, en1, en2, en3, en4, en6, rq1, rq2, rq3, rq4, rq6, rm1, rm2, rm3, rm4, rm6, fz0, fz1, X5_bound_e, X5_isIn_e, Nat.lt_irrefl, Nat.le_refl, Nat.not_lt_zero, Nat.zero_le, n9a, n9b, n9c, n9d, n9e, n9f, n9g, lp_u0, lp_u1, lp_u2, s1, s2, ↓reduceIte]
    · rw [if_neg h2] at s2
      by_cases h3 : sT c a b 1 0
      · rw [if_pos h3] at s3
        refine ⟨_, ?_, d3, ⟨nI 10, rfl, Or.inr (Or.inr (Or.inl ⟨h1, h2, h3, rfl⟩))⟩, z3⟩
        simp (disch := omega) only [gi_nI, tn_nI, hs_1, hs_2, hs_3, hs_4, hs_5, hs_6, hs_7, hs_s, hs_m, hs_h, hs_t, lit_nI, nI_add, nI_mul, nI_eq, nI_leI, nI_ltI, nm_j, bd_j, Nat.one_ne_zero, Nat.zero_ne_one, Nat.reduceEqDiff, Nat.reduceLeDiff, Nat.reduceLT, Nat.reduceAdd, Nat.reduceSub, Nat.reduceMul, e10, e01, en1, en2, en3, en4, en6, rq1, rq2, rq3, rq4, rq6, rm1, rm2, rm3, rm4, rm6, fz0, fz1, X5_bound_e, X5_isIn_e, Nat.lt_irrefl, Nat.le_refl, Nat.not_lt_zero, Nat.zero_le, n9a, n9b, n9c, n9d, n9e, n9f, n9g, lp_u0, lp_u1, lp_u2, s1, s2, s3, ↓reduceIte]
      · rw [if_neg h3] at s3
        by_cases h4 : sT c a b 1 1
        · rw [if_pos h4] at s4
          refine ⟨_, ?_, d4, ⟨nI 11, rfl, Or.inr (Or.inr (Or.inr (Or.inl ⟨h1, h2, h3, h4, rfl⟩)))⟩, z4⟩
          simp (disch := omega) only [gi_nI, tn_nI, hs_1, hs_2, hs_3, hs_4, hs_5, hs_6, hs_7, hs_s, hs_m, hs_h, hs_t, lit_nI, nI_add, nI_mul, nI_eq, nI_leI, nI_ltI, nm_j, bd_j, Nat.one_ne_zero, Nat.zero_ne_one, Nat.reduceEqDiff, Nat.reduceLeDiff, Nat.reduceLT, Nat.reduceAdd, Nat.reduceSub, Nat.reduceMul, e10, e01, en1, en2, en3, en4, en6, rq1, rq2, rq3, rq4, rq6, rm1, rm2, rm3, rm4, rm6, fz0, fz1, X5_bound_e, X5_isIn_e, Nat.lt_irrefl, Nat.le_refl, Nat.not_lt_zero, Nat.zero_le, n9a, n9b, n9c, n9d, n9e, n9f, n9g, lp_u0, lp_u1, lp_u2, s1, s2, s3, s4, ↓reduceIte]
        · rw [if_neg h4] at s4
          refine ⟨_, ?_, d4, ⟨-nI 9, rfl, Or.inr (Or.inr (Or.inr (Or.inr ⟨h1, h2, h3, h4, rfl⟩)))⟩, z4⟩
          simp (disch := omega) only [gi_nI, tn_nI, hs_1, hs_2, hs_3, hs_4, hs_5, hs_6, hs_7, hs_s, hs_m, hs_h, hs_t, lit_nI, nI_add, nI_mul, nI_eq, nI_leI, nI_ltI, nm_j, bd_j, Nat.one_ne_zero, Nat.zero_ne_one, Nat.reduceEqDiff, Nat.reduceLeDiff, Nat.reduceLT, Nat.reduceAdd, Nat.reduceSub, Nat.reduceMul, e10, e01, en1, en2, en3, en4, en6, rq1, rq2, rq3, rq4, rq6, rm1, rm2, rm3, rm4, rm6, fz0, fz1, X5_bound_e, X5_isIn_e, Nat.lt_irrefl, Nat.le_refl, Nat.not_lt_zero, Nat.zero_le, n9a, n9b, n9c, n9d, n9e, n9f, n9g, lp_u0, lp_u1, lp_u2, s1, s2, s3, s4, ↓reduceIte]
