/-! STORM -/
theorem shb : ∀ v, v < 128 → ∀ i, i < 7 → (nI v >>> (nI i &&& nI 31)) &&& nI 1 = nI (v / 2 ^ i % 2) := by decide +kernel
theorem p2e : ∀ n, n < 8 → nI 1 <<< (nI n &&& nI 31) = nI (2 ^ n) := by decide +kernel
/-- the harbour behind i tides with the storms of v -/
def sg (c : G2) (v : Nat) : Nat → G2
  | 0 => c
  | i + 1 => tid (if v / 2 ^ i % 2 = 0 then sg c v i else stm (sg c v i))
theorem sg_t0 {c : G2} {v i : Nat} (h : v / 2 ^ i % 2 = 0) : sg c v (i + 1) = tid (sg c v i) := by simp only [sg]; rw [if_pos h]
theorem sg_t1 {c : G2} {v i : Nat} (h : ¬ v / 2 ^ i % 2 = 0) : sg c v (i + 1) = tid (stm (sg c v i)) := by simp only [sg]; rw [if_neg h]
theorem sg_t {c : G2} {v : Nat} : ∀ i, sg c v i 16 3 = c 16 3 + i
  | 0 => rfl
  | i + 1 => by
    have ih := sg_t (c := c) (v := v) i
    by_cases h : v / 2 ^ i % 2 = 0
    · rw [sg_t0 h, tid_t, ih]; omega
    · rw [sg_t1 h, tid_t, stm_o (by decide) (by decide), ih]; omega
theorem Hd_sg {c : G2} {v : Nat} (hG : Hd c) : ∀ i, c 16 3 + i ≤ 9999 → Hd (sg c v i)
  | 0, _ => hG
  | i + 1, hi => by
    have ih := Hd_sg (v := v) hG i (by omega)
    have ht := sg_t (c := c) (v := v) i
    by_cases h : v / 2 ^ i % 2 = 0
    · rw [sg_t0 h]; exact Hd_tid ih (by omega)
    · rw [sg_t1 h]; exact Hd_tid (Hd_stm ih) (by rw [stm_o (by decide) (by decide)]; omega)
theorem X4_iob {c d : G2} {Gn Gt k g w z q : St} {s n v : Nat} (hG : Gd c) (hd : Zc d) (hs1 : s < 5) (hn : n ≤ 7) (hv : v < 128) : f_X4_isOutBehind (hs c Gn) (hs d Gt) k g w z q (nI s) (nI n) (nI v) = some (nI (if sg c v n 3 s = 0 then 0 else 1), hs (sg c v n) Gt) := by
  have hT := hG.2.2.2.1
  have e1 := X0_copyFrom (G := Gn) (Gt := Gt) hG.2.1 hd
  unfold f_X4_isOutBehind
  have main : ∀ x, x = some (nI (if sg c v n 3 s = 0 then 0 else 1), hs (sg c v n) Gt) → fzp x = some (nI (if sg c v n 3 s = 0 then 0 else 1), hs (sg c v n) Gt) := by
    intro x hx
    rw [hx]
    split
    · exact fzp0
    · exact fzp1
  apply main
  simp (disch := omega) only [gi_nI, tn_nI, hs_1, hs_2, hs_3, hs_4, hs_5, hs_6, hs_7, hs_s, hs_m, hs_h, hs_t, lit_nI, nI_add, nI_mul, nI_eq, nI_leI, nI_ltI, nm_j, bd_j, Nat.one_ne_zero, Nat.zero_ne_one, Nat.reduceEqDiff, Nat.reduceLeDiff, Nat.reduceLT, Nat.reduceAdd, Nat.reduceSub, Nat.reduceMul, e10, e01, en1, en2, en3, en4, en6, rq1, rq2, rq3, rq4, rq6, rm1, rm2, rm3, rm4, rm6, fz0, fz1, X5_bound_e, X5_isIn_e, Nat.lt_irrefl, Nat.le_refl, Nat.not_lt_zero, Nat.zero_le, n9a, n9b, n9c, n9d, n9e, n9f, n9g, e1, ↓reduceIte]
  refine lp_d (S := fun i => (nI i, hs (sg c v i) Gt)) n rfl (fun i hi nx => ?_) (fun nx => ?_) (by omega)
  · have h1 : ¬ n ≤ i := by omega
    have hH := Hd_sg (v := v) hG.hd i (by omega)
    have ht := sg_t (c := c) (v := v) i
    have eb := shb v hv i (by omega)
    by_cases h : v / 2 ^ i % 2 = 0
    · have e5 := X0_passTides (G := Gt) (n := 1) hH.1 (by omega) (by omega)
      rw [tds_1] at e5
      rw [h] at eb
      rw [sg_t0 h]
      simp (disch := omega) only [gi_nI, tn_nI, hs_1, hs_2, hs_3, hs_4, hs_5, hs_6, hs_7, hs_s, hs_m, hs_h, hs_t, lit_nI, nI_add, nI_mul, nI_eq, nI_leI, nI_ltI, nm_j, bd_j, Nat.one_ne_zero, Nat.zero_ne_one, Nat.reduceEqDiff, Nat.reduceLeDiff, Nat.reduceLT, Nat.reduceAdd, Nat.reduceSub, Nat.reduceMul, e10, e01, en1, en2, en3, en4, en6, rq1, rq2, rq3, rq4, rq6, rm1, rm2, rm3, rm4, rm6, fz0, fz1, X5_bound_e, X5_isIn_e, Nat.lt_irrefl, Nat.le_refl, Nat.not_lt_zero, Nat.zero_le, n9a, n9b, n9c, n9d, n9e, n9f, n9g, h1, eb, e5, ↓reduceIte]
    · have hb1 : v / 2 ^ i % 2 = 1 := by omega
      have e4 := X0_storms (G := Gt) hH.1
      have hH2 := Hd_stm hH
      have o3 : stm (sg c v i) 16 3 = c 16 3 + i := by rw [stm_o (by decide) (by decide), ht]
      have e5 := X0_passTides (G := Gt) (n := 1) hH2.1 (by omega) (by omega)
      rw [tds_1] at e5
      rw [hb1] at eb
      rw [sg_t1 h]
      simp (disch := omega) only [gi_nI, tn_nI, hs_1, hs_2, hs_3, hs_4, hs_5, hs_6, hs_7, hs_s, hs_m, hs_h, hs_t, lit_nI, nI_add, nI_mul, nI_eq, nI_leI, nI_ltI, nm_j, bd_j, Nat.one_ne_zero, Nat.zero_ne_one, Nat.reduceEqDiff, Nat.reduceLeDiff, Nat.reduceLT, Nat.reduceAdd, Nat.reduceSub, Nat.reduceMul, e10, e01, en1, en2, en3, en4, en6, rq1, rq2, rq3, rq4, rq6, rm1, rm2, rm3, rm4, rm6, fz0, fz1, X5_bound_e, X5_isIn_e, Nat.lt_irrefl, Nat.le_refl, Nat.not_lt_zero, Nat.zero_le, n9a, n9b, n9c, n9d, n9e, n9f, n9g, h1, eb, e4, e5, ↓reduceIte]
  · have hH := Hd_sg (v := v) hG.hd n (by omega)
    have e3 := X0_isIn (G := Gt) hH.1 hs1
    by_cases h3 : sg c v n 3 s = 0
    · rw [if_pos h3] at e3
      rw [if_pos h3]
      simp (disch := omega) only [gi_nI, tn_nI, hs_1, hs_2, hs_3, hs_4, hs_5, hs_6, hs_7, hs_s, hs_m, hs_h, hs_t, lit_nI, nI_add, nI_mul, nI_eq, nI_leI, nI_ltI, nm_j, bd_j, Nat.one_ne_zero, Nat.zero_ne_one, Nat.reduceEqDiff, Nat.reduceLeDiff, Nat.reduceLT, Nat.reduceAdd, Nat.reduceSub, Nat.reduceMul, e10, e01, en1, en2, en3, en4, en6, rq1, rq2, rq3, rq4, rq6, rm1, rm2, rm3, rm4, rm6, fz0, fz1, X5_bound_e, X5_isIn_e, Nat.lt_irrefl, Nat.le_refl, Nat.not_lt_zero, Nat.zero_le, n9a, n9b, n9c, n9d, n9e, n9f, n9g, e3, ↓reduceIte]
    · rw [if_neg h3] at e3
      rw [if_neg h3]
      simp (disch := omega) only [gi_nI, tn_nI, hs_1, hs_2, hs_3, hs_4, hs_5, hs_6, hs_7, hs_s, hs_m, hs_h, hs_t, lit_nI, nI_add, nI_mul, nI_eq, nI_leI, nI_ltI, nm_j, bd_j, Nat.one_ne_zero, Nat.zero_ne_one, Nat.reduceEqDiff, Nat.reduceLeDiff, Nat.reduceLT, Nat.reduceAdd, Nat.reduceSub, Nat.reduceMul, e10, e01, en1, en2, en3, en4, en6, rq1, rq2, rq3, rq4, rq6, rm1, rm2, rm3, rm4, rm6, fz0, fz1, X5_bound_e, X5_isIn_e, Nat.lt_irrefl, Nat.le_refl, Nat.not_lt_zero, Nat.zero_le, n9a, n9b, n9c, n9d, n9e, n9f, n9g, e3, ↓reduceIte]
theorem X4_pw {b n : Nat} (hn : n ≤ 900) : f_X4_power (lN b) (nI n) = some (lN (b ^ n)) := by
  unfold f_X4_power
  refine lp_d (S := fun j => (lN (b ^ j), nI j)) n rfl (fun j hj nx => ?_) (fun nx => ?_) (by omega)
  · have h1 : ¬ n ≤ j := by omega
    simp (disch := omega) only [gi_nI, tn_nI, hs_1, hs_2, hs_3, hs_4, hs_5, hs_6, hs_7, hs_s, hs_m, hs_h, hs_t, lit_nI, nI_add, nI_mul, nI_eq, nI_leI, nI_ltI, nm_j, bd_j, Nat.one_ne_zero, Nat.zero_ne_one, Nat.reduceEqDiff, Nat.reduceLeDiff, Nat.reduceLT, Nat.reduceAdd, Nat.reduceSub, Nat.reduceMul, e10, e01, en1, en2, en3, en4, en6, rq1, rq2, rq3, rq4, rq6, rm1, rm2, rm3, rm4, rm6, fz0, fz1, X5_bound_e, X5_isIn_e, Nat.lt_irrefl, Nat.le_refl, Nat.not_lt_zero, Nat.zero_le, n9a, n9b, n9c, n9d, n9e, n9f, n9g, h1, lN_mul, ↓reduceIte]
    rfl
  · simp (disch := omega) only [gi_nI, tn_nI, hs_1, hs_2, hs_3, hs_4, hs_5, hs_6, hs_7, hs_s, hs_m, hs_h, hs_t, lit_nI, nI_add, nI_mul, nI_eq, nI_leI, nI_ltI, nm_j, bd_j, Nat.one_ne_zero, Nat.zero_ne_one, Nat.reduceEqDiff, Nat.reduceLeDiff, Nat.reduceLT, Nat.reduceAdd, Nat.reduceSub, Nat.reduceMul, e10, e01, en1, en2, en3, en4, en6, rq1, rq2, rq3, rq4, rq6, rm1, rm2, rm3, rm4, rm6, fz0, fz1, X5_bound_e, X5_isIn_e, Nat.lt_irrefl, Nat.le_refl, Nat.not_lt_zero, Nat.zero_le, n9a, n9b, n9c, n9d, n9e, n9f, n9g, ↓reduceIte]
def zc (v : Nat) : Nat → Nat
  | 0 => 0
  | i + 1 => zc v i + if v / 2 ^ i % 2 = 0 then 1 else 0
theorem pz : ∀ n, n < 8 → ∀ v, v < 128 → v < 2 ^ n → pc v + zc v n = n := by decide +kernel
def wy (c : G2) (s n t : Nat) : Nat → Nat
  | 0 => 0
  | v + 1 => wy c s n t v + if sg c v n 3 s = 0 then 0 else (t - 1) ^ zc v n
theorem zc_le {v : Nat} : ∀ i, zc v i ≤ i
  | 0 => Nat.le_refl 0
  | i + 1 => by
    have := zc_le (v := v) i
    simp only [zc]
    split <;> omega
theorem pw7 {k : Nat} (h : k ≤ 7) : 20 ^ k ≤ 1280000000 := by
  have h1 := Nat.pow_le_pow_right (n := 20) (show 20 > 0 by decide) h
  have e : 20 ^ 7 = 1280000000 := by decide
  rw [e] at h1
  exact h1
theorem wy_le {c : G2} {s n t : Nat} (hn : n ≤ 7) (ht : t ≤ 20) : ∀ v, wy c s n t v ≤ v * 1280000000
  | 0 => by simp [wy]
  | v + 1 => by
    have h1 := wy_le (c := c) (s := s) hn ht v
    have h2 := zc_le (v := v) n
    have h3 : (t - 1) ^ zc v n ≤ 20 ^ zc v n := Nat.pow_le_pow_left (by omega) _
    have h4 := pw7 (show zc v n ≤ 7 by omega)
    have h5 : (v + 1) * 1280000000 = v * 1280000000 + 1280000000 := Nat.succ_mul _ _
    have h6 : (if sg c v n 3 s = 0 then 0 else (t - 1) ^ zc v n) ≤ 1280000000 := by
      split
      · exact Nat.zero_le _
      · exact Nat.le_trans h3 h4
    show wy c s n t v + _ ≤ _
    rw [h5]
    exact Nat.add_le_add h1 h6
theorem tn_le {t n : Nat} (hn : n ≤ 7) (ht : t ≤ 20) (ht0 : 2 ≤ t) : t ^ n ≤ 1280000000 ∧ 0 < t ^ n := by
  have h3 : t ^ n ≤ 20 ^ n := Nat.pow_le_pow_left ht _
  have h4 := pw7 hn
  exact ⟨Nat.le_trans h3 h4, Nat.pow_pos (by omega)⟩
theorem X4_sto {c ct : G2} {Gn Gt k g w z q : St} {s n t p : Nat} (hG : Gd c) (hZ : Zc ct) (hs1 : s < c 16 0) (hn : n ≤ 7) (ht : t ≤ 20) (ht0 : 2 ≤ t) (hp : p ≤ 1) : ∃ r, f_X4_storm (hs c Gn) (hs ct Gt) k g w z q (nI s) (nI n) (nI t) (nI p) = some r ∧ ∃ d, r = (lN (frN (wy c s n t (2 ^ n)) (t ^ n) p), hs d Gt, q) ∧ Zc d := by
  have hI := hG.1
  have hN5 := hI.2.1
  have e1 := X0_hasShip (G := Gn) hI (show s < 2147483648 by omega)
  rw [if_pos hs1] at e1
  have l2 : 2 ^ n ≤ 2 ^ 7 := Nat.pow_le_pow_right (by decide) hn
  have ep := p2e n (by omega)
  have hw := wy_le (c := c) (s := s) hn ht (2 ^ n)
  have hw2 : 2 ^ n * 1280000000 ≤ 128 * 1280000000 := Nat.mul_le_mul_right _ l2
  obtain ⟨ht1, ht2⟩ := tn_le hn ht ht0
  have epw := X4_pw (b := t) (n := n) (by omega)
  have efr := X4_fr (u := wy c s n t (2 ^ n)) (b := t ^ n) (p := p) (by omega) (by omega) ht2 hp
  have et : (nI t).toInt64 = lN t := nI_l (by omega)
  have et1 : (nI (t - 1)).toInt64 = lN (t - 1) := nI_l (by omega)
  have hn7 : ¬ 7 < n := by omega
  have step : ∀ (v : Nat) (d : G2), v < 2 ^ n → Zc d → ∃ b, f_X4_isOutBehind (hs c Gn) (hs d Gt) k g w z q (nI s) (nI n) (nI v) = some (nI b, hs (sg c v n) Gt) ∧ b = (if sg c v n 3 s = 0 then 0 else 1) ∧ Zc (sg c v n) := fun v d hv hd => ⟨_, X4_iob hG hd (by omega) hn (by omega), rfl, (Hd_sg hG.hd n (by have := hG.2.2.2.1; omega)).2.1⟩
  unfold f_X4_storm
  generalize hM : 2 ^ n = N at *
  have run : ∀ (f : ((Int64 × Int32 × St) → Option (Int64 × St × St)) → (Int64 × Int32 × St) → Option (Int64 × St × St)), (∀ nx v d, v < N → Zc d → sg c v n 3 s = 0 → f nx (lN (wy c s n t v), nI v, hs d Gt) = nx (lN (wy c s n t v), nI (v + 1), hs (sg c v n) Gt)) → (∀ nx v d, v < N → Zc d → ¬ sg c v n 3 s = 0 → f nx (lN (wy c s n t v), nI v, hs d Gt) = nx (lN (wy c s n t v + (t - 1) ^ zc v n), nI (v + 1), hs (sg c v n) Gt)) → (∀ nx d, Zc d → f nx (lN (wy c s n t N), nI N, hs d Gt) = some (lN (frN (wy c s n t N) (t ^ n) p), hs d Gt, q)) → ∃ r, lp f 1000 ((0 : Int64), nI 0, hs ct Gt) = some r ∧ ∃ d, r = (lN (frN (wy c s n t N) (t ^ n) p), hs d Gt, q) ∧ Zc d := by
    intro f f1 f2 f3
    refine lp_r (fun v x => ∃ d, x = (lN (wy c s n t v), nI v, hs d Gt) ∧ Zc d) _ N ⟨ct, rfl, hZ⟩ (fun v hv x hx => Or.inl ?_) (fun x hx => ?_) (by omega)
    · obtain ⟨d, rfl, hd⟩ := hx
      obtain ⟨-, -, -, hz⟩ := step v d hv hd
      by_cases h3 : sg c v n 3 s = 0
      · have ew : wy c s n t (v + 1) = wy c s n t v := by simp only [wy]; rw [if_pos h3]; rfl
        rw [ew]
        exact ⟨_, ⟨sg c v n, rfl, hz⟩, fun nx => f1 nx v d hv hd h3⟩
      · have ew : wy c s n t (v + 1) = wy c s n t v + (t - 1) ^ zc v n := by simp only [wy]; rw [if_neg h3]
        rw [ew]
        exact ⟨_, ⟨sg c v n, rfl, hz⟩, fun nx => f2 nx v d hv hd h3⟩
    · obtain ⟨d, rfl, hd⟩ := hx
      exact ⟨_, ⟨d, rfl, hd⟩, fun nx => f3 nx d hd⟩
  have g1 : ∀ v d, v < N → Zc d → sg c v n 3 s = 0 → f_X4_isOutBehind (hs c Gn) (hs d Gt) k g w z q (nI s) (nI n) (nI v) = some (nI 0, hs (sg c v n) Gt) := by
    intro v d hv hd h3
    obtain ⟨b, a1, a2, -⟩ := step v d hv hd
    rw [if_pos h3] at a2
    rw [a1, a2]
  have g2 : ∀ v d, v < N → Zc d → ¬ sg c v n 3 s = 0 → f_X4_isOutBehind (hs c Gn) (hs d Gt) k g w z q (nI s) (nI n) (nI v) = some (nI 1, hs (sg c v n) Gt) := by
    intro v d hv hd h3
    obtain ⟨b, a1, a2, -⟩ := step v d hv hd
    rw [if_neg h3] at a2
    rw [a1, a2]
  have g3 : ∀ v, v < N → f_J6_bitCount_0f7a4 (nI v) = some (nI (pc v)) ∧ pc v ≤ n ∧ f_X4_power (lN (t - 1)) (nI (n - pc v)) = some (lN ((t - 1) ^ zc v n)) := by
    intro v hv
    have hp1 := pz n (by omega) v (by omega) (by omega)
    refine ⟨bc_0 v (by omega), by omega, ?_⟩
    rw [X4_pw (by omega)]
    congr 3
    omega
  have lift : ∀ v, v < N → ¬ N ≤ v := fun v hv => by omega
  rcases (show p = 0 ∨ p = 1 by omega) with rfl | rfl
  · simp (disch := omega) only [gi_nI, tn_nI, hs_1, hs_2, hs_3, hs_4, hs_5, hs_6, hs_7, hs_s, hs_m, hs_h, hs_t, lit_nI, nI_add, nI_mul, nI_eq, nI_leI, nI_ltI, nm_j, bd_j, Nat.one_ne_zero, Nat.zero_ne_one, Nat.reduceEqDiff, Nat.reduceLeDiff, Nat.reduceLT, Nat.reduceAdd, Nat.reduceSub, Nat.reduceMul, e10, e01, en1, en2, en3, en4, en6, rq1, rq2, rq3, rq4, rq6, rm1, rm2, rm3, rm4, rm6, fz0, fz1, X5_bound_e, X5_isIn_e, Nat.lt_irrefl, Nat.le_refl, Nat.not_lt_zero, Nat.zero_le, n9a, n9b, n9c, n9d, n9e, n9f, n9g, e1, hn7, ep, ht, ht0, ↓reduceIte]
    refine run _ (fun nx v d hv hd h3 => ?_) (fun nx v d hv hd h3 => ?_) (fun nx d hd => ?_)
    · have h1 := lift v hv
      simp (disch := omega) only [gi_nI, tn_nI, hs_1, hs_2, hs_3, hs_4, hs_5, hs_6, hs_7, hs_s, hs_m, hs_h, hs_t, lit_nI, nI_add, nI_mul, nI_eq, nI_leI, nI_ltI, nm_j, bd_j, Nat.one_ne_zero, Nat.zero_ne_one, Nat.reduceEqDiff, Nat.reduceLeDiff, Nat.reduceLT, Nat.reduceAdd, Nat.reduceSub, Nat.reduceMul, e10, e01, en1, en2, en3, en4, en6, rq1, rq2, rq3, rq4, rq6, rm1, rm2, rm3, rm4, rm6, fz0, fz1, X5_bound_e, X5_isIn_e, Nat.lt_irrefl, Nat.le_refl, Nat.not_lt_zero, Nat.zero_le, n9a, n9b, n9c, n9d, n9e, n9f, n9g, h1, g1 v d hv hd h3, ↓reduceIte]
    · have h1 := lift v hv
      obtain ⟨k1, k2, k3⟩ := g3 v hv
      simp (disch := omega) only [gi_nI, tn_nI, hs_1, hs_2, hs_3, hs_4, hs_5, hs_6, hs_7, hs_s, hs_m, hs_h, hs_t, lit_nI, nI_add, nI_mul, nI_eq, nI_leI, nI_ltI, nm_j, bd_j, Nat.one_ne_zero, Nat.zero_ne_one, Nat.reduceEqDiff, Nat.reduceLeDiff, Nat.reduceLT, Nat.reduceAdd, Nat.reduceSub, Nat.reduceMul, e10, e01, en1, en2, en3, en4, en6, rq1, rq2, rq3, rq4, rq6, rm1, rm2, rm3, rm4, rm6, fz0, fz1, X5_bound_e, X5_isIn_e, Nat.lt_irrefl, Nat.le_refl, Nat.not_lt_zero, Nat.zero_le, n9a, n9b, n9c, n9d, n9e, n9f, n9g, h1, g2 v d hv hd h3, k1, nI_sub, et1, k3, lN_add, ↓reduceIte]
    · simp (disch := omega) only [gi_nI, tn_nI, hs_1, hs_2, hs_3, hs_4, hs_5, hs_6, hs_7, hs_s, hs_m, hs_h, hs_t, lit_nI, nI_add, nI_mul, nI_eq, nI_leI, nI_ltI, nm_j, bd_j, Nat.one_ne_zero, Nat.zero_ne_one, Nat.reduceEqDiff, Nat.reduceLeDiff, Nat.reduceLT, Nat.reduceAdd, Nat.reduceSub, Nat.reduceMul, e10, e01, en1, en2, en3, en4, en6, rq1, rq2, rq3, rq4, rq6, rm1, rm2, rm3, rm4, rm6, fz0, fz1, X5_bound_e, X5_isIn_e, Nat.lt_irrefl, Nat.le_refl, Nat.not_lt_zero, Nat.zero_le, n9a, n9b, n9c, n9d, n9e, n9f, n9g, et, epw, efr, ↓reduceIte]
  · simp (disch := omega) only [gi_nI, tn_nI, hs_1, hs_2, hs_3, hs_4, hs_5, hs_6, hs_7, hs_s, hs_m, hs_h, hs_t, lit_nI, nI_add, nI_mul, nI_eq, nI_leI, nI_ltI, nm_j, bd_j, Nat.one_ne_zero, Nat.zero_ne_one, Nat.reduceEqDiff, Nat.reduceLeDiff, Nat.reduceLT, Nat.reduceAdd, Nat.reduceSub, Nat.reduceMul, e10, e01, en1, en2, en3, en4, en6, rq1, rq2, rq3, rq4, rq6, rm1, rm2, rm3, rm4, rm6, fz0, fz1, X5_bound_e, X5_isIn_e, Nat.lt_irrefl, Nat.le_refl, Nat.not_lt_zero, Nat.zero_le, n9a, n9b, n9c, n9d, n9e, n9f, n9g, e1, hn7, ep, ht, ht0, ↓reduceIte]
    refine run _ (fun nx v d hv hd h3 => ?_) (fun nx v d hv hd h3 => ?_) (fun nx d hd => ?_)
    · have h1 := lift v hv
      simp (disch := omega) only [gi_nI, tn_nI, hs_1, hs_2, hs_3, hs_4, hs_5, hs_6, hs_7, hs_s, hs_m, hs_h, hs_t, lit_nI, nI_add, nI_mul, nI_eq, nI_leI, nI_ltI, nm_j, bd_j, Nat.one_ne_zero, Nat.zero_ne_one, Nat.reduceEqDiff, Nat.reduceLeDiff, Nat.reduceLT, Nat.reduceAdd, Nat.reduceSub, Nat.reduceMul, e10, e01, en1, en2, en3, en4, en6, rq1, rq2, rq3, rq4, rq6, rm1, rm2, rm3, rm4, rm6, fz0, fz1, X5_bound_e, X5_isIn_e, Nat.lt_irrefl, Nat.le_refl, Nat.not_lt_zero, Nat.zero_le, n9a, n9b, n9c, n9d, n9e, n9f, n9g, h1, g1 v d hv hd h3, ↓reduceIte]
    · have h1 := lift v hv
      obtain ⟨k1, k2, k3⟩ := g3 v hv
      simp (disch := omega) only [gi_nI, tn_nI, hs_1, hs_2, hs_3, hs_4, hs_5, hs_6, hs_7, hs_s, hs_m, hs_h, hs_t, lit_nI, nI_add, nI_mul, nI_eq, nI_leI, nI_ltI, nm_j, bd_j, Nat.one_ne_zero, Nat.zero_ne_one, Nat.reduceEqDiff, Nat.reduceLeDiff, Nat.reduceLT, Nat.reduceAdd, Nat.reduceSub, Nat.reduceMul, e10, e01, en1, en2, en3, en4, en6, rq1, rq2, rq3, rq4, rq6, rm1, rm2, rm3, rm4, rm6, fz0, fz1, X5_bound_e, X5_isIn_e, Nat.lt_irrefl, Nat.le_refl, Nat.not_lt_zero, Nat.zero_le, n9a, n9b, n9c, n9d, n9e, n9f, n9g, h1, g2 v d hv hd h3, k1, nI_sub, et1, k3, lN_add, ↓reduceIte]
    · simp (disch := omega) only [gi_nI, tn_nI, hs_1, hs_2, hs_3, hs_4, hs_5, hs_6, hs_7, hs_s, hs_m, hs_h, hs_t, lit_nI, nI_add, nI_mul, nI_eq, nI_leI, nI_ltI, nm_j, bd_j, Nat.one_ne_zero, Nat.zero_ne_one, Nat.reduceEqDiff, Nat.reduceLeDiff, Nat.reduceLT, Nat.reduceAdd, Nat.reduceSub, Nat.reduceMul, e10, e01, en1, en2, en3, en4, en6, rq1, rq2, rq3, rq4, rq6, rm1, rm2, rm3, rm4, rm6, fz0, fz1, X5_bound_e, X5_isIn_e, Nat.lt_irrefl, Nat.le_refl, Nat.not_lt_zero, Nat.zero_le, n9a, n9b, n9c, n9d, n9e, n9f, n9g, et, epw, efr, ↓reduceIte]
