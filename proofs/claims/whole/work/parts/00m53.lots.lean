/-! LOTS -/
theorem an_e (x : Int32) : ∃ y, y < 2147483648 ∧ x &&& nI 2147483647 = nI y := by
  refine ⟨(x.toBitVec &&& 2147483647#32).toNat, ?_, ?_⟩
  · rw [BitVec.toNat_and]
    exact Nat.lt_of_le_of_lt Nat.and_le_right (by decide)
  · apply Int32.toBitVec_inj.mp
    rw [Int32.toBitVec_and]
    have e : (nI 2147483647).toBitVec = 2147483647#32 := by decide +kernel
    rw [e]
    apply BitVec.eq_of_toNat_eq
    show _ = (BitVec.ofNat 32 _).toNat
    rw [BitVec.toNat_ofNat, Nat.mod_eq_of_lt (BitVec.isLt _)]
/-- the draw below N of the seed x -/
def dr (x : Int32) (N : Nat) : Nat := (x &&& nI 2147483647).toNatClampNeg / 256 % N
theorem dr_e {x : Int32} {N : Nat} (h0 : 0 < N) (hN : N ≤ 8) : (x &&& nI 2147483647) / nI 256 - (x &&& nI 2147483647) / nI 256 / nI N * nI N = nI (dr x N) ∧ dr x N < N := by
  obtain ⟨y, h1, h2⟩ := an_e x
  unfold dr
  rw [h2, tn_nI h1]
  refine ⟨?_, Nat.mod_lt _ h0⟩
  rw [nI_div (by omega) (by omega)]
  exact nI_mod (by omega) (by omega)
def nxs (x : Int32) : Int32 := x * nI 1664525 + nI 1013904223
/-- i draws and tides from the seed x in c: seed, harbour, risen -/
def ss (c : G2) (x : Int32) : Nat → Int32 × G2 × Nat
  | 0 => (x, c, 0)
  | i + 1 => (nxs (ss c x i).1, tid (tl (ss c x i).2.1 (dr (nxs (ss c x i).1) (c 16 1))), (ss c x i).2.2 + tlc (ss c x i).2.1 (dr (nxs (ss c x i).1) (c 16 1)))
theorem ss_t {c : G2} {x : Int32} : ∀ i, (ss c x i).2.1 16 3 = c 16 3 + i
  | 0 => rfl
  | i + 1 => by
    have ih := ss_t (c := c) (x := x) i
    simp only [ss]
    rw [tid_t, tl_o (by decide) (by decide) (by decide) (by decide), ih]
    omega
theorem ss_m {c : G2} {x : Int32} : ∀ i, (ss c x i).2.1 16 1 = c 16 1
  | 0 => rfl
  | i + 1 => by
    have ih := ss_m (c := c) (x := x) i
    simp only [ss]
    rw [tid_o (by decide) (by decide) (by decide), tl_o (by decide) (by decide) (by decide) (by decide), ih]
theorem Hd_ss {c : G2} {x : Int32} (hG : Hd c) : ∀ i, c 16 3 + i ≤ 9999 → Hd (ss c x i).2.1
  | 0, _ => hG
  | i + 1, hi => by
    have ih := Hd_ss (x := x) hG i (by omega)
    have ht := ss_t (c := c) (x := x) i
    simp only [ss]
    refine Hd_tid (Hd_tl ih) ?_
    rw [tl_o (by decide) (by decide) (by decide) (by decide), ht]
    omega
theorem gdT {α : Type} {k : Option α} : gd True k = k := gd_t trivial
theorem X2_draw {z : St} {N : Nat} {x : Int32} (hz : z 0 0 = x) (h0 : 0 < N) (hN : N ≤ 8) : f_X2_drawBelow z (nI N) = some (nI (dr (nxs x) N), su z 0 0 (nxs x)) := by
  have e1 : x * nI 1664525 + nI 1013904223 = nxs x := rfl
  have e2 : su z 0 0 (nxs x) 0 0 = nxs x := su_at
  have e3 := (dr_e (x := nxs x) h0 hN).1
  have h1 : ¬ N ≤ 0 := by omega
  have h2 : ¬ N = 0 := by omega
  unfold f_X2_drawBelow
  simp (disch := omega) only [gi_nI, tn_nI, hs_1, hs_2, hs_3, hs_4, hs_5, hs_6, hs_7, hs_s, hs_m, hs_h, hs_t, lit_nI, nI_add, nI_mul, nI_eq, nI_leI, nI_ltI, nm_j, bd_j, Nat.one_ne_zero, Nat.zero_ne_one, Nat.reduceEqDiff, Nat.reduceLeDiff, Nat.reduceLT, Nat.reduceAdd, Nat.reduceSub, Nat.reduceMul, e10, e01, en1, en2, en3, en4, en6, rq1, rq2, rq3, rq4, rq6, rm1, rm2, rm3, rm4, rm6, fz0, fz1, X5_bound_e, X5_isIn_e, Nat.lt_irrefl, Nat.le_refl, Nat.not_lt_zero, Nat.zero_le, n9a, n9b, n9c, n9d, n9e, n9f, n9g, hz, e1, h1, h2, e2, not_false_eq_true, gdT, ↓reduceIte]
  rw [e3]
theorem X4_sea {c : G2} {n Gt k g w z q : St} {x : Int32} (hG : Gd c) (hz : z 0 0 = x) (h0 : 0 < c 16 1) : f_X4_season n (hs c Gt) k g w z q = some (nI (ss c x 12).2.2, hs (ss c x 12).2.1 Gt, su z 0 0 (ss c x 12).1) := by
  have hI := hG.1
  have hT := hG.2.2.2.1
  have hN := hI.2.2.1
  unfold f_X4_season
  refine lp_d (S := fun i => (nI (ss c x i).2.2, nI i, hs (ss c x i).2.1 Gt, su z 0 0 (ss c x i).1)) 12 (by rw [show su z 0 0 (ss c x 0).1 = z from su_self hz]; rfl) (fun i hi nx => ?_) (fun nx => ?_) (by omega)
  · have h1 : ¬ 12 ≤ i := by omega
    have hH := Hd_ss (x := x) hG.hd i (by omega)
    have ht := ss_t (c := c) (x := x) i
    have hm := ss_m (c := c) (x := x) i
    have hd1 := (dr_e (x := nxs (ss c x i).1) h0 hN).2
    have e1 := X2_draw (z := su z 0 0 (ss c x i).1) (N := c 16 1) (x := (ss c x i).1) su_at h0 hN
    rw [su_su] at e1
    have e2 := X0_wd (G := Gt) (m := dr (nxs (ss c x i).1) (c 16 1)) hH.1 (by omega)
    have hH2 := Hd_tl (m := dr (nxs (ss c x i).1) (c 16 1)) hH
    have o3 : tl (ss c x i).2.1 (dr (nxs (ss c x i).1) (c 16 1)) 16 3 = c 16 3 + i := by rw [tl_o (by decide) (by decide) (by decide) (by decide), ht]
    have e3 := X0_passTides (G := Gt) (n := 1) hH2.1 (by omega) (by omega)
    rw [tds_1] at e3
    simp (disch := omega) only [gi_nI, tn_nI, hs_1, hs_2, hs_3, hs_4, hs_5, hs_6, hs_7, hs_s, hs_m, hs_h, hs_t, lit_nI, nI_add, nI_mul, nI_eq, nI_leI, nI_ltI, nm_j, bd_j, Nat.one_ne_zero, Nat.zero_ne_one, Nat.reduceEqDiff, Nat.reduceLeDiff, Nat.reduceLT, Nat.reduceAdd, Nat.reduceSub, Nat.reduceMul, e10, e01, en1, en2, en3, en4, en6, rq1, rq2, rq3, rq4, rq6, rm1, rm2, rm3, rm4, rm6, fz0, fz1, X5_bound_e, X5_isIn_e, Nat.lt_irrefl, Nat.le_refl, Nat.not_lt_zero, Nat.zero_le, n9a, n9b, n9c, n9d, n9e, n9f, n9g, h1, hm, e1, e2, e3, ↓reduceIte]
    rfl
  · simp (disch := omega) only [gi_nI, tn_nI, hs_1, hs_2, hs_3, hs_4, hs_5, hs_6, hs_7, hs_s, hs_m, hs_h, hs_t, lit_nI, nI_add, nI_mul, nI_eq, nI_leI, nI_ltI, nm_j, bd_j, Nat.one_ne_zero, Nat.zero_ne_one, Nat.reduceEqDiff, Nat.reduceLeDiff, Nat.reduceLT, Nat.reduceAdd, Nat.reduceSub, Nat.reduceMul, e10, e01, en1, en2, en3, en4, en6, rq1, rq2, rq3, rq4, rq6, rm1, rm2, rm3, rm4, rm6, fz0, fz1, X5_bound_e, X5_isIn_e, Nat.lt_irrefl, Nat.le_refl, Nat.not_lt_zero, Nat.zero_le, n9a, n9b, n9c, n9d, n9e, n9f, n9g, ↓reduceIte]
def LL (c : G2) (x : Int32) : Nat → Int32 × Nat × Nat
  | 0 => (x, 0, 0)
  | i + 1 => ((ss c (LL c x i).1 12).1, (LL c x i).2.1 + (ss c (LL c x i).1 12).2.2, (LL c x i).2.2 + alS (ss c (LL c x i).1 12).2.1)
theorem X4_lo {c ct : G2} {Gn Gt k g w z q : St} {n p : Nat} {x : Int32} (hG : Gd c) (hZ : Zc ct) (h0 : 0 < c 16 1) (hn1 : 1 ≤ n) (hn : n ≤ 20) (hp : p ≤ 1) : ∃ r, f_X4_lots (hs c Gn) (hs ct Gt) k g w z q (nI n) x (nI p) = some r ∧ ∃ d z', r = ((if p = 0 then nI (LL c x n).2.1 else nI (LL c x n).2.2), hs d Gt, z', q) ∧ Zc d := by
  have hI := hG.1
  have hT := hG.2.2.2.1
  have hN := hI.2.2.1
  have h2 : ¬ c 16 1 = 0 := by omega
  have run : ∀ (f : ((Int32 × Int32 × Int32 × St × St) → Option (Int32 × St × St × St)) → (Int32 × Int32 × Int32 × St × St) → Option (Int32 × St × St × St)), (∀ nx i d z', i < n → Zc d → z' 0 0 = (LL c x i).1 → f nx (nI (LL c x i).2.1, nI (LL c x i).2.2, nI i, hs d Gt, z') = nx (nI (LL c x (i + 1)).2.1, nI (LL c x (i + 1)).2.2, nI (i + 1), hs (ss c (LL c x i).1 12).2.1 Gt, su z' 0 0 (ss c (LL c x i).1 12).1)) → (∀ nx d z', Zc d → f nx (nI (LL c x n).2.1, nI (LL c x n).2.2, nI n, hs d Gt, z') = some ((if p = 0 then nI (LL c x n).2.1 else nI (LL c x n).2.2), hs d Gt, z', q)) → ∃ r, lp f 1000 (nI 0, nI 0, nI 0, hs ct Gt, su z 0 0 x) = some r ∧ ∃ d z', r = ((if p = 0 then nI (LL c x n).2.1 else nI (LL c x n).2.2), hs d Gt, z', q) ∧ Zc d := by
    intro f f1 f2
    refine lp_r (fun i s => ∃ d z', s = (nI (LL c x i).2.1, nI (LL c x i).2.2, nI i, hs d Gt, z') ∧ Zc d ∧ z' 0 0 = (LL c x i).1) _ n ⟨ct, su z 0 0 x, rfl, hZ, su_at⟩ (fun i hi s hs1 => Or.inl ?_) (fun s hs1 => ?_) (by omega)
    · obtain ⟨d, z', rfl, hd, hz⟩ := hs1
      exact ⟨_, ⟨_, _, rfl, (Hd_ss (x := (LL c x i).1) hG.hd 12 (by omega)).2.1, su_at⟩, fun nx => f1 nx i d z' hi hd hz⟩
    · obtain ⟨d, z', rfl, hd, hz⟩ := hs1
      exact ⟨_, ⟨d, z', rfl, hd⟩, fun nx => f2 nx d z' hd⟩
  have a1 : ∀ d, Zc d → f_X0_copyFrom (hs d Gt) (hs c Gn) = some (hs c Gt) := fun d hd => X0_copyFrom hG.2.1 hd
  have a2 : ∀ i z', z' 0 0 = (LL c x i).1 → f_X4_season (hs c Gn) (hs c Gt) k g w z' q = some (nI (ss c (LL c x i).1 12).2.2, hs (ss c (LL c x i).1 12).2.1 Gt, su z' 0 0 (ss c (LL c x i).1 12).1) := fun i z' hz => X4_sea hG hz h0
  have a3 : ∀ i, f_X0_allSins (hs (ss c (LL c x i).1 12).2.1 Gt) = some (nI (alS (ss c (LL c x i).1 12).2.1)) := fun i => X0_allSins (Hd_ss (x := (LL c x i).1) hG.hd 12 (by omega)).1
  unfold f_X4_lots
  rcases (show p = 0 ∨ p = 1 by omega) with rfl | rfl
  · simp (disch := omega) only [gi_nI, tn_nI, hs_1, hs_2, hs_3, hs_4, hs_5, hs_6, hs_7, hs_s, hs_m, hs_h, hs_t, lit_nI, nI_add, nI_mul, nI_eq, nI_leI, nI_ltI, nm_j, bd_j, Nat.one_ne_zero, Nat.zero_ne_one, Nat.reduceEqDiff, Nat.reduceLeDiff, Nat.reduceLT, Nat.reduceAdd, Nat.reduceSub, Nat.reduceMul, e10, e01, en1, en2, en3, en4, en6, rq1, rq2, rq3, rq4, rq6, rm1, rm2, rm3, rm4, rm6, fz0, fz1, X5_bound_e, X5_isIn_e, Nat.lt_irrefl, Nat.le_refl, Nat.not_lt_zero, Nat.zero_le, n9a, n9b, n9c, n9d, n9e, n9f, n9g, hn1, hn, h2, ↓reduceIte]
    refine run _ (fun nx i d z' hi hd hz => ?_) (fun nx d z' hd => ?_)
    · have h1 : ¬ n ≤ i := by omega
      simp (disch := omega) only [gi_nI, tn_nI, hs_1, hs_2, hs_3, hs_4, hs_5, hs_6, hs_7, hs_s, hs_m, hs_h, hs_t, lit_nI, nI_add, nI_mul, nI_eq, nI_leI, nI_ltI, nm_j, bd_j, Nat.one_ne_zero, Nat.zero_ne_one, Nat.reduceEqDiff, Nat.reduceLeDiff, Nat.reduceLT, Nat.reduceAdd, Nat.reduceSub, Nat.reduceMul, e10, e01, en1, en2, en3, en4, en6, rq1, rq2, rq3, rq4, rq6, rm1, rm2, rm3, rm4, rm6, fz0, fz1, X5_bound_e, X5_isIn_e, Nat.lt_irrefl, Nat.le_refl, Nat.not_lt_zero, Nat.zero_le, n9a, n9b, n9c, n9d, n9e, n9f, n9g, h1, a1 d hd, a2 i z' hz, a3 i, ↓reduceIte]
      rfl
    · simp (disch := omega) only [gi_nI, tn_nI, hs_1, hs_2, hs_3, hs_4, hs_5, hs_6, hs_7, hs_s, hs_m, hs_h, hs_t, lit_nI, nI_add, nI_mul, nI_eq, nI_leI, nI_ltI, nm_j, bd_j, Nat.one_ne_zero, Nat.zero_ne_one, Nat.reduceEqDiff, Nat.reduceLeDiff, Nat.reduceLT, Nat.reduceAdd, Nat.reduceSub, Nat.reduceMul, e10, e01, en1, en2, en3, en4, en6, rq1, rq2, rq3, rq4, rq6, rm1, rm2, rm3, rm4, rm6, fz0, fz1, X5_bound_e, X5_isIn_e, Nat.lt_irrefl, Nat.le_refl, Nat.not_lt_zero, Nat.zero_le, n9a, n9b, n9c, n9d, n9e, n9f, n9g, ↓reduceIte]
  · simp (disch := omega) only [gi_nI, tn_nI, hs_1, hs_2, hs_3, hs_4, hs_5, hs_6, hs_7, hs_s, hs_m, hs_h, hs_t, lit_nI, nI_add, nI_mul, nI_eq, nI_leI, nI_ltI, nm_j, bd_j, Nat.one_ne_zero, Nat.zero_ne_one, Nat.reduceEqDiff, Nat.reduceLeDiff, Nat.reduceLT, Nat.reduceAdd, Nat.reduceSub, Nat.reduceMul, e10, e01, en1, en2, en3, en4, en6, rq1, rq2, rq3, rq4, rq6, rm1, rm2, rm3, rm4, rm6, fz0, fz1, X5_bound_e, X5_isIn_e, Nat.lt_irrefl, Nat.le_refl, Nat.not_lt_zero, Nat.zero_le, n9a, n9b, n9c, n9d, n9e, n9f, n9g, hn1, hn, h2, ↓reduceIte]
    refine run _ (fun nx i d z' hi hd hz => ?_) (fun nx d z' hd => ?_)
    · have h1 : ¬ n ≤ i := by omega
      simp (disch := omega) only [gi_nI, tn_nI, hs_1, hs_2, hs_3, hs_4, hs_5, hs_6, hs_7, hs_s, hs_m, hs_h, hs_t, lit_nI, nI_add, nI_mul, nI_eq, nI_leI, nI_ltI, nm_j, bd_j, Nat.one_ne_zero, Nat.zero_ne_one, Nat.reduceEqDiff, Nat.reduceLeDiff, Nat.reduceLT, Nat.reduceAdd, Nat.reduceSub, Nat.reduceMul, e10, e01, en1, en2, en3, en4, en6, rq1, rq2, rq3, rq4, rq6, rm1, rm2, rm3, rm4, rm6, fz0, fz1, X5_bound_e, X5_isIn_e, Nat.lt_irrefl, Nat.le_refl, Nat.not_lt_zero, Nat.zero_le, n9a, n9b, n9c, n9d, n9e, n9f, n9g, h1, a1 d hd, a2 i z' hz, a3 i, ↓reduceIte]
      rfl
    · simp (disch := omega) only [gi_nI, tn_nI, hs_1, hs_2, hs_3, hs_4, hs_5, hs_6, hs_7, hs_s, hs_m, hs_h, hs_t, lit_nI, nI_add, nI_mul, nI_eq, nI_leI, nI_ltI, nm_j, bd_j, Nat.one_ne_zero, Nat.zero_ne_one, Nat.reduceEqDiff, Nat.reduceLeDiff, Nat.reduceLT, Nat.reduceAdd, Nat.reduceSub, Nat.reduceMul, e10, e01, en1, en2, en3, en4, en6, rq1, rq2, rq3, rq4, rq6, rm1, rm2, rm3, rm4, rm6, fz0, fz1, X5_bound_e, X5_isIn_e, Nat.lt_irrefl, Nat.le_refl, Nat.not_lt_zero, Nat.zero_le, n9a, n9b, n9c, n9d, n9e, n9f, n9g, ↓reduceIte]
theorem X5_lo {c kc : G2} {GM g w q : St} {n p : Nat} {x : Int32} (hG : Gd c) (hS : Sx kc g w q GM) (h0 : 0 < c 16 1) (hn1 : 1 ≤ n) (hn : n ≤ 20) (hp : p ≤ 1) : ∃ r, f_X5_lots (hs c GM) (nI n) x (nI p) = some r ∧ ∃ G', r = ((if p = 0 then nI (LL c x n).2.1 else nI (LL c x n).2.2), hs c G') ∧ Sx kc g w q G' := by
  have hI := hG.1
  have hT := hG.2.2.2.1
  have hN := hI.2.2.1
  have h2 : ¬ c 16 1 = 0 := by omega
  have hp1 : ¬ 1 < p := by omega
  unfold f_X5_lots
  simp (disch := omega) only [gi_nI, tn_nI, hs_1, hs_2, hs_3, hs_4, hs_5, hs_6, hs_7, hs_s, hs_m, hs_h, hs_t, lit_nI, nI_add, nI_mul, nI_eq, nI_leI, nI_ltI, nm_j, bd_j, Nat.one_ne_zero, Nat.zero_ne_one, Nat.reduceEqDiff, Nat.reduceLeDiff, Nat.reduceLT, Nat.reduceAdd, Nat.reduceSub, Nat.reduceMul, e10, e01, en1, en2, en3, en4, en6, rq1, rq2, rq3, rq4, rq6, rm1, rm2, rm3, rm4, rm6, fz0, fz1, X5_bound_e, X5_isIn_e, Nat.lt_irrefl, Nat.le_refl, Nat.not_lt_zero, Nat.zero_le, n9a, n9b, n9c, n9d, n9e, n9f, n9g, hn1, hn, h2, hp1, ↓reduceIte]
  refine lp_r (fun i s => ∃ G', s = ((LL c x i).1, nI (LL c x i).2.1, nI (LL c x i).2.2, nI i, hs c G') ∧ Sx kc g w q G') _ n ⟨GM, rfl, hS⟩ (fun i hi s hs1 => Or.inl ?_) (fun s hs1 => ?_) (by omega)
  · obtain ⟨G, rfl, hSG⟩ := hs1
    have h1 : ¬ n ≤ i := by omega
    obtain ⟨GT, t1, t2, t3⟩ := TF hSG hG.2.1
    have hH12 := Hd_ss (x := (LL c x i).1) hG.hd 12 (by omega)
    obtain ⟨G', t4, t5⟩ := t3 _ hH12.2.1 GT rfl t2
    have eA := X5_allSins (G := GT) hH12.1
    simp (disch := omega) only [gi_nI, tn_nI, hs_1, hs_2, hs_3, hs_4, hs_5, hs_6, hs_7, hs_s, hs_m, hs_h, hs_t, lit_nI, nI_add, nI_mul, nI_eq, nI_leI, nI_ltI, nm_j, bd_j, Nat.one_ne_zero, Nat.zero_ne_one, Nat.reduceEqDiff, Nat.reduceLeDiff, Nat.reduceLT, Nat.reduceAdd, Nat.reduceSub, Nat.reduceMul, e10, e01, en1, en2, en3, en4, en6, rq1, rq2, rq3, rq4, rq6, rm1, rm2, rm3, rm4, rm6, fz0, fz1, X5_bound_e, X5_isIn_e, Nat.lt_irrefl, Nat.le_refl, Nat.not_lt_zero, Nat.zero_le, n9a, n9b, n9c, n9d, n9e, n9f, n9g, h1, t1, ↓reduceIte]
    refine lp_in (fun j s => s = ((ss c (LL c x i).1 j).1, nI ((LL c x i).2.1 + (ss c (LL c x i).1 j).2.2), nI j, hs (ss c (LL c x i).1 j).2.1 GT)) _ 12 rfl (fun j hj s hs2 => ?_) (fun s hs2 => ?_) (by decide)
    · subst hs2
      have h3 : ¬ 12 ≤ j := by omega
      have hH := Hd_ss (x := (LL c x i).1) hG.hd j (by omega)
      have ht := ss_t (c := c) (x := (LL c x i).1) j
      have hm := ss_m (c := c) (x := (LL c x i).1) j
      obtain ⟨hd0, hd1⟩ := dr_e (x := nxs (ss c (LL c x i).1 j).1) h0 hN
      have e1 : (ss c (LL c x i).1 j).1 * nI 1664525 + nI 1013904223 = nxs (ss c (LL c x i).1 j).1 := rfl
      rcases tell_or (m := dr (nxs (ss c (LL c x i).1 j).1) (c 16 1)) hH.1 (by omega) with ⟨hx, htt⟩ | ⟨hx, htt⟩
      · have e2 := (htt GT).2
        have e3 := X5_tellsOne (G := GT) hH.1 hx.1 hx.2.1
        have hH2 := Hd_tel hH hx.1
        have e4 := X5_goesTide (G := GT) hH2.1 (by rw [tel_o (by decide) (by decide) (by decide) (by decide), ht]; omega)
        have es : ss c (LL c x i).1 (j + 1) = (nxs (ss c (LL c x i).1 j).1, tid (tel (ss c (LL c x i).1 j).2.1 (dr (nxs (ss c (LL c x i).1 j).1) (c 16 1))), (ss c (LL c x i).1 j).2.2 + tcn (ss c (LL c x i).1 j).2.1 (dr (nxs (ss c (LL c x i).1 j).1) (c 16 1))) := by
          simp only [ss, tl, tlc]
          rw [if_pos hx, if_pos hx]
        refine ⟨_, rfl, fun k nx => ?_⟩
        rw [es]
        simp (disch := omega) only [gi_nI, tn_nI, hs_1, hs_2, hs_3, hs_4, hs_5, hs_6, hs_7, hs_s, hs_m, hs_h, hs_t, lit_nI, nI_add, nI_mul, nI_eq, nI_leI, nI_ltI, nm_j, bd_j, Nat.one_ne_zero, Nat.zero_ne_one, Nat.reduceEqDiff, Nat.reduceLeDiff, Nat.reduceLT, Nat.reduceAdd, Nat.reduceSub, Nat.reduceMul, e10, e01, en1, en2, en3, en4, en6, rq1, rq2, rq3, rq4, rq6, rm1, rm2, rm3, rm4, rm6, fz0, fz1, X5_bound_e, X5_isIn_e, Nat.lt_irrefl, Nat.le_refl, Nat.not_lt_zero, Nat.zero_le, n9a, n9b, n9c, n9d, n9e, n9f, n9g, h3, e1, hm, h2, not_false_eq_true, gdT, hd0, e2, e3, e4, Nat.add_assoc, ↓reduceIte]
      · have e2 := (htt GT).2
        have e4 := X5_goesTide (G := GT) hH.1 (by omega)
        have es : ss c (LL c x i).1 (j + 1) = (nxs (ss c (LL c x i).1 j).1, tid (ss c (LL c x i).1 j).2.1, (ss c (LL c x i).1 j).2.2) := by
          simp only [ss, tl, tlc]
          rw [if_neg hx, if_neg hx]
          rfl
        refine ⟨_, rfl, fun k nx => ?_⟩
        rw [es]
        simp (disch := omega) only [gi_nI, tn_nI, hs_1, hs_2, hs_3, hs_4, hs_5, hs_6, hs_7, hs_s, hs_m, hs_h, hs_t, lit_nI, nI_add, nI_mul, nI_eq, nI_leI, nI_ltI, nm_j, bd_j, Nat.one_ne_zero, Nat.zero_ne_one, Nat.reduceEqDiff, Nat.reduceLeDiff, Nat.reduceLT, Nat.reduceAdd, Nat.reduceSub, Nat.reduceMul, e10, e01, en1, en2, en3, en4, en6, rq1, rq2, rq3, rq4, rq6, rm1, rm2, rm3, rm4, rm6, fz0, fz1, X5_bound_e, X5_isIn_e, Nat.lt_irrefl, Nat.le_refl, Nat.not_lt_zero, Nat.zero_le, n9a, n9b, n9c, n9d, n9e, n9f, n9g, h3, e1, hm, h2, not_false_eq_true, gdT, hd0, e2, e4, Nat.add_zero, ↓reduceIte]
    · subst hs2
      refine ⟨_, ⟨G', rfl, t5⟩, fun k nx => ?_⟩
      simp (disch := omega) only [gi_nI, tn_nI, hs_1, hs_2, hs_3, hs_4, hs_5, hs_6, hs_7, hs_s, hs_m, hs_h, hs_t, lit_nI, nI_add, nI_mul, nI_eq, nI_leI, nI_ltI, nm_j, bd_j, Nat.one_ne_zero, Nat.zero_ne_one, Nat.reduceEqDiff, Nat.reduceLeDiff, Nat.reduceLT, Nat.reduceAdd, Nat.reduceSub, Nat.reduceMul, e10, e01, en1, en2, en3, en4, en6, rq1, rq2, rq3, rq4, rq6, rm1, rm2, rm3, rm4, rm6, fz0, fz1, X5_bound_e, X5_isIn_e, Nat.lt_irrefl, Nat.le_refl, Nat.not_lt_zero, Nat.zero_le, n9a, n9b, n9c, n9d, n9e, n9f, n9g, eA, t4, ↓reduceIte]
      rfl
  · obtain ⟨G, rfl, hSG⟩ := hs1
    refine ⟨_, ⟨G, rfl, hSG⟩, fun nx => ?_⟩
    simp (disch := omega) only [gi_nI, tn_nI, hs_1, hs_2, hs_3, hs_4, hs_5, hs_6, hs_7, hs_s, hs_m, hs_h, hs_t, lit_nI, nI_add, nI_mul, nI_eq, nI_leI, nI_ltI, nm_j, bd_j, Nat.one_ne_zero, Nat.zero_ne_one, Nat.reduceEqDiff, Nat.reduceLeDiff, Nat.reduceLT, Nat.reduceAdd, Nat.reduceSub, Nat.reduceMul, e10, e01, en1, en2, en3, en4, en6, rq1, rq2, rq3, rq4, rq6, rm1, rm2, rm3, rm4, rm6, fz0, fz1, X5_bound_e, X5_isIn_e, Nat.lt_irrefl, Nat.le_refl, Nat.not_lt_zero, Nat.zero_le, n9a, n9b, n9c, n9d, n9e, n9f, n9g, ↓reduceIte]
    rcases (show p = 0 ∨ p = 1 by omega) with rfl | rfl
    · simp (disch := omega) only [gi_nI, tn_nI, hs_1, hs_2, hs_3, hs_4, hs_5, hs_6, hs_7, hs_s, hs_m, hs_h, hs_t, lit_nI, nI_add, nI_mul, nI_eq, nI_leI, nI_ltI, nm_j, bd_j, Nat.one_ne_zero, Nat.zero_ne_one, Nat.reduceEqDiff, Nat.reduceLeDiff, Nat.reduceLT, Nat.reduceAdd, Nat.reduceSub, Nat.reduceMul, e10, e01, en1, en2, en3, en4, en6, rq1, rq2, rq3, rq4, rq6, rm1, rm2, rm3, rm4, rm6, fz0, fz1, X5_bound_e, X5_isIn_e, Nat.lt_irrefl, Nat.le_refl, Nat.not_lt_zero, Nat.zero_le, n9a, n9b, n9c, n9d, n9e, n9f, n9g, ↓reduceIte]
    · simp (disch := omega) only [gi_nI, tn_nI, hs_1, hs_2, hs_3, hs_4, hs_5, hs_6, hs_7, hs_s, hs_m, hs_h, hs_t, lit_nI, nI_add, nI_mul, nI_eq, nI_leI, nI_ltI, nm_j, bd_j, Nat.one_ne_zero, Nat.zero_ne_one, Nat.reduceEqDiff, Nat.reduceLeDiff, Nat.reduceLT, Nat.reduceAdd, Nat.reduceSub, Nat.reduceMul, e10, e01, en1, en2, en3, en4, en6, rq1, rq2, rq3, rq4, rq6, rm1, rm2, rm3, rm4, rm6, fz0, fz1, X5_bound_e, X5_isIn_e, Nat.lt_irrefl, Nat.le_refl, Nat.not_lt_zero, Nat.zero_le, n9a, n9b, n9c, n9d, n9e, n9f, n9g, ↓reduceIte]
theorem r_lots {n t k g w z q M : St} (hR : R n t k g w z q M) (p1 p2 p3 : Int32) : ∃ r t' z' q' M', f_X4_lots n t k g w z q p1 p2 p3 = some (r, t', z', q') ∧ f_X5_lots M p1 p2 p3 = some (r, M') ∧ R n t' k g w z' q' M' := by
  have hQ := hR
  obtain ⟨c, ct, kc, Gn, Gt, Gk, GM, rfl, rfl, rfl, rfl, hG, hZ, hK, hS⟩ := hR
  have hI := hG.1
  have hN := hI.2.2.1
  by_cases h1 : nI 1 ≤ p1
  · by_cases h2 : p1 ≤ nI 20
    · obtain ⟨n, hn1, hn, rfl⟩ := rng1 (by decide) (by decide) h1 h2
      have main : ∀ p, p ≤ 1 → ∃ r t' z' q' M', f_X4_lots (hs c Gn) (hs ct Gt) (hs kc Gk) g w z q (nI n) p2 (nI p) = some (r, t', z', q') ∧ f_X5_lots (hs c GM) (nI n) p2 (nI p) = some (r, M') ∧ R (hs c Gn) t' (hs kc Gk) g w z' q' M' := by
        intro p hp
        by_cases h0 : c 16 1 = 0
        · refine ⟨-nI 3, _, z, rf q 3, rf (hs c GM) 3, ?_, ?_, hQ.ref 3⟩
          · unfold f_X4_lots
            rcases (show p = 0 ∨ p = 1 by omega) with rfl | rfl
            · simp (disch := omega) only [gi_nI, tn_nI, hs_1, hs_2, hs_3, hs_4, hs_5, hs_6, hs_7, hs_s, hs_m, hs_h, hs_t, lit_nI, nI_add, nI_mul, nI_eq, nI_leI, nI_ltI, nm_j, bd_j, Nat.one_ne_zero, Nat.zero_ne_one, Nat.reduceEqDiff, Nat.reduceLeDiff, Nat.reduceLT, Nat.reduceAdd, Nat.reduceSub, Nat.reduceMul, e10, e01, en1, en2, en3, en4, en6, rq1, rq2, rq3, rq4, rq6, rm1, rm2, rm3, rm4, rm6, fz0, fz1, X5_bound_e, X5_isIn_e, Nat.lt_irrefl, Nat.le_refl, Nat.not_lt_zero, Nat.zero_le, n9a, n9b, n9c, n9d, n9e, n9f, n9g, hn1, hn, h0, ↓reduceIte]
            · simp (disch := omega) only [gi_nI, tn_nI, hs_1, hs_2, hs_3, hs_4, hs_5, hs_6, hs_7, hs_s, hs_m, hs_h, hs_t, lit_nI, nI_add, nI_mul, nI_eq, nI_leI, nI_ltI, nm_j, bd_j, Nat.one_ne_zero, Nat.zero_ne_one, Nat.reduceEqDiff, Nat.reduceLeDiff, Nat.reduceLT, Nat.reduceAdd, Nat.reduceSub, Nat.reduceMul, e10, e01, en1, en2, en3, en4, en6, rq1, rq2, rq3, rq4, rq6, rm1, rm2, rm3, rm4, rm6, fz0, fz1, X5_bound_e, X5_isIn_e, Nat.lt_irrefl, Nat.le_refl, Nat.not_lt_zero, Nat.zero_le, n9a, n9b, n9c, n9d, n9e, n9f, n9g, hn1, hn, h0, ↓reduceIte]
          · have hp1 : ¬ 1 < p := by omega
            unfold f_X5_lots
            simp (disch := omega) only [gi_nI, tn_nI, hs_1, hs_2, hs_3, hs_4, hs_5, hs_6, hs_7, hs_s, hs_m, hs_h, hs_t, lit_nI, nI_add, nI_mul, nI_eq, nI_leI, nI_ltI, nm_j, bd_j, Nat.one_ne_zero, Nat.zero_ne_one, Nat.reduceEqDiff, Nat.reduceLeDiff, Nat.reduceLT, Nat.reduceAdd, Nat.reduceSub, Nat.reduceMul, e10, e01, en1, en2, en3, en4, en6, rq1, rq2, rq3, rq4, rq6, rm1, rm2, rm3, rm4, rm6, fz0, fz1, X5_bound_e, X5_isIn_e, Nat.lt_irrefl, Nat.le_refl, Nat.not_lt_zero, Nat.zero_le, n9a, n9b, n9c, n9d, n9e, n9f, n9g, hn1, hn, h0, hp1, ↓reduceIte]
        · obtain ⟨_, a1, d, z', rfl, a2⟩ := X4_lo (Gn := Gn) (Gt := Gt) (k := hs kc Gk) (g := g) (w := w) (z := z) (q := q) (x := p2) hG hZ (by omega) hn1 hn hp
          obtain ⟨_, a3, G', rfl, a4⟩ := X5_lo (x := p2) hG hS (by omega) hn1 hn hp
          exact ⟨_, _, z', q, _, a1, a3, c, d, kc, Gn, Gt, Gk, G', rfl, rfl, rfl, rfl, hG, a2, hK, a4⟩
      rcases wh01 p3 with rfl | rfl | ⟨w1, w2, w3⟩
      · exact main 0 (by omega)
      · exact main 1 (by omega)
      · refine ⟨-nI 2, _, z, rf q 2, rf (hs c GM) 2, ?_, ?_, hQ.ref 2⟩
        · unfold f_X4_lots
          simp (disch := omega) only [gi_nI, tn_nI, hs_1, hs_2, hs_3, hs_4, hs_5, hs_6, hs_7, hs_s, hs_m, hs_h, hs_t, lit_nI, nI_add, nI_mul, nI_eq, nI_leI, nI_ltI, nm_j, bd_j, Nat.one_ne_zero, Nat.zero_ne_one, Nat.reduceEqDiff, Nat.reduceLeDiff, Nat.reduceLT, Nat.reduceAdd, Nat.reduceSub, Nat.reduceMul, e10, e01, en1, en2, en3, en4, en6, rq1, rq2, rq3, rq4, rq6, rm1, rm2, rm3, rm4, rm6, fz0, fz1, X5_bound_e, X5_isIn_e, Nat.lt_irrefl, Nat.le_refl, Nat.not_lt_zero, Nat.zero_le, n9a, n9b, n9c, n9d, n9e, n9f, n9g, hn1, hn, w1, w2, ↓reduceIte]
        · unfold f_X5_lots
          simp (disch := omega) only [gi_nI, tn_nI, hs_1, hs_2, hs_3, hs_4, hs_5, hs_6, hs_7, hs_s, hs_m, hs_h, hs_t, lit_nI, nI_add, nI_mul, nI_eq, nI_leI, nI_ltI, nm_j, bd_j, Nat.one_ne_zero, Nat.zero_ne_one, Nat.reduceEqDiff, Nat.reduceLeDiff, Nat.reduceLT, Nat.reduceAdd, Nat.reduceSub, Nat.reduceMul, e10, e01, en1, en2, en3, en4, en6, rq1, rq2, rq3, rq4, rq6, rm1, rm2, rm3, rm4, rm6, fz0, fz1, X5_bound_e, X5_isIn_e, Nat.lt_irrefl, Nat.le_refl, Nat.not_lt_zero, Nat.zero_le, n9a, n9b, n9c, n9d, n9e, n9f, n9g, hn1, hn, w3, ↓reduceIte]
    · refine ⟨-nI 6, _, z, rf q 6, rf (hs c GM) 6, ?_, ?_, hQ.ref 6⟩
      · unfold f_X4_lots
        simp (disch := omega) only [gi_nI, tn_nI, hs_1, hs_2, hs_3, hs_4, hs_5, hs_6, hs_7, hs_s, hs_m, hs_h, hs_t, lit_nI, nI_add, nI_mul, nI_eq, nI_leI, nI_ltI, nm_j, bd_j, Nat.one_ne_zero, Nat.zero_ne_one, Nat.reduceEqDiff, Nat.reduceLeDiff, Nat.reduceLT, Nat.reduceAdd, Nat.reduceSub, Nat.reduceMul, e10, e01, en1, en2, en3, en4, en6, rq1, rq2, rq3, rq4, rq6, rm1, rm2, rm3, rm4, rm6, fz0, fz1, X5_bound_e, X5_isIn_e, Nat.lt_irrefl, Nat.le_refl, Nat.not_lt_zero, Nat.zero_le, n9a, n9b, n9c, n9d, n9e, n9f, n9g, h1, h2, ↓reduceIte]
      · unfold f_X5_lots
        simp (disch := omega) only [gi_nI, tn_nI, hs_1, hs_2, hs_3, hs_4, hs_5, hs_6, hs_7, hs_s, hs_m, hs_h, hs_t, lit_nI, nI_add, nI_mul, nI_eq, nI_leI, nI_ltI, nm_j, bd_j, Nat.one_ne_zero, Nat.zero_ne_one, Nat.reduceEqDiff, Nat.reduceLeDiff, Nat.reduceLT, Nat.reduceAdd, Nat.reduceSub, Nat.reduceMul, e10, e01, en1, en2, en3, en4, en6, rq1, rq2, rq3, rq4, rq6, rm1, rm2, rm3, rm4, rm6, fz0, fz1, X5_bound_e, X5_isIn_e, Nat.lt_irrefl, Nat.le_refl, Nat.not_lt_zero, Nat.zero_le, n9a, n9b, n9c, n9d, n9e, n9f, n9g, h1, h2, ↓reduceIte]
  · refine ⟨-nI 4, _, z, rf q 4, rf (hs c GM) 4, ?_, ?_, hQ.ref 4⟩
    · unfold f_X4_lots
      simp (disch := omega) only [gi_nI, tn_nI, hs_1, hs_2, hs_3, hs_4, hs_5, hs_6, hs_7, hs_s, hs_m, hs_h, hs_t, lit_nI, nI_add, nI_mul, nI_eq, nI_leI, nI_ltI, nm_j, bd_j, Nat.one_ne_zero, Nat.zero_ne_one, Nat.reduceEqDiff, Nat.reduceLeDiff, Nat.reduceLT, Nat.reduceAdd, Nat.reduceSub, Nat.reduceMul, e10, e01, en1, en2, en3, en4, en6, rq1, rq2, rq3, rq4, rq6, rm1, rm2, rm3, rm4, rm6, fz0, fz1, X5_bound_e, X5_isIn_e, Nat.lt_irrefl, Nat.le_refl, Nat.not_lt_zero, Nat.zero_le, n9a, n9b, n9c, n9d, n9e, n9f, n9g, h1, ↓reduceIte]
    · unfold f_X5_lots
      simp (disch := omega) only [gi_nI, tn_nI, hs_1, hs_2, hs_3, hs_4, hs_5, hs_6, hs_7, hs_s, hs_m, hs_h, hs_t, lit_nI, nI_add, nI_mul, nI_eq, nI_leI, nI_ltI, nm_j, bd_j, Nat.one_ne_zero, Nat.zero_ne_one, Nat.reduceEqDiff, Nat.reduceLeDiff, Nat.reduceLT, Nat.reduceAdd, Nat.reduceSub, Nat.reduceMul, e10, e01, en1, en2, en3, en4, en6, rq1, rq2, rq3, rq4, rq6, rm1, rm2, rm3, rm4, rm6, fz0, fz1, X5_bound_e, X5_isIn_e, Nat.lt_irrefl, Nat.le_refl, Nat.not_lt_zero, Nat.zero_le, n9a, n9b, n9c, n9d, n9e, n9f, n9g, h1, ↓reduceIte]
