/-! SPREE, RICHEST -/
def Hd (c : G2) : Prop := Iv c ∧ Zc c ∧ Ol c ∧ ∀ m, c 6 m ≤ 9
theorem Gd.hd {c : G2} (h : Gd c) : Hd c := ⟨h.1, h.2.1, h.2.2.1, h.2.2.2.2⟩
theorem Hd_tel {c : G2} {m : Nat} (hG : Hd c) (hm : m < c 16 1) : Hd (tel c m) := by
  obtain ⟨g1, g2, g3, g5⟩ := hG
  have hN := g1.2.2.1
  exact ⟨Iv_tel g1, Zc_tel g1 g2 (by omega), Ol_tel g3, fun k => Nat.le_trans tel_6 (g5 k)⟩
theorem Hd_tid {c : G2} (hG : Hd c) (ht : c 16 3 < 9999) : Hd (tid c) := by
  obtain ⟨g1, g2, g3, g5⟩ := hG
  exact ⟨Iv_tid g1 ht, Zc_tid g1 g2, Ol_tid g3, tid_6 g5⟩
theorem stm_o {c : G2} {i k : Nat} (h3 : i ≠ 3) (h2 : i ≠ 2) : stm c i k = c i k := by
  rw [stm_e, rsJ_o h3 h2, st1_o h2]
theorem Hd_stm {c : G2} (hG : Hd c) : Hd (stm c) := by
  obtain ⟨g1, g2, g3, g5⟩ := hG
  exact ⟨Iv_stm g1, Zc_stm g1 g2, Ol_stm g3, fun k => by rw [stm_o (by decide) (by decide)]; exact g5 k⟩
/-- he tells if he can -/
def tl (c : G2) (m : Nat) : G2 := if m < c 16 1 ∧ 0 < c 6 m ∧ c 3 (c 7 m) = 0 then tel c m else c
def tlc (c : G2) (m : Nat) : Nat := if m < c 16 1 ∧ 0 < c 6 m ∧ c 3 (c 7 m) = 0 then tcn c m else 0
theorem Hd_tl {c : G2} {m : Nat} (hG : Hd c) : Hd (tl c m) := by
  unfold tl
  split
  · rename_i h
    exact Hd_tel hG h.1
  · exact hG
theorem tl_o {c : G2} {m i k : Nat} (h3 : i ≠ 3) (h2 : i ≠ 2) (h6 : i ≠ 6) (h16 : ¬ (i = 16 ∧ k = 2)) : tl c m i k = c i k := by
  unfold tl
  split
  · exact tel_o h3 h2 h6 h16
  · rfl
theorem X0_wd {c : G2} {G : St} {m : Nat} (hI : Iv c) (hm : m < 2147483648) : f_X0_word (hs c G) (nI m) = some (nI (tlc c m), hs (tl c m) G) := by
  unfold tl tlc
  by_cases hx : m < c 16 1 ∧ 0 < c 6 m ∧ c 3 (c 7 m) = 0
  · rw [if_pos hx, if_pos hx]
    exact X0_word hI hx.1 hx.2.1 hx.2.2
  · rw [if_neg hx, if_neg hx]
    rcases tell_or hI hm with ⟨hy, ht⟩ | ⟨hy, ht⟩
    · exact absurd hy hx
    · have e := (ht G).1
      unfold f_X0_word
      simp (disch := omega) only [gi_nI, tn_nI, hs_1, hs_2, hs_3, hs_4, hs_5, hs_6, hs_7, hs_s, hs_m, hs_h, hs_t, lit_nI, nI_add, nI_mul, nI_eq, nI_leI, nI_ltI, nm_i, bd_s, Nat.one_ne_zero, Nat.zero_ne_one, Nat.reduceEqDiff, Nat.reduceLeDiff, Nat.reduceLT, Nat.reduceAdd, Nat.reduceSub, Nat.reduceMul, e10, e01, en1, en2, en3, en4, en6, rq1, rq2, rq3, rq4, rq6, rm1, rm2, rm3, rm4, rm6, fz0, fz1, X5_bound_e, X5_isIn_e, Nat.lt_irrefl, Nat.le_refl, Nat.not_lt_zero, Nat.zero_le, n9a, n9b, n9c, n9d, n9e, n9f, n9g, e, ↓reduceIte]
def spr (c : G2) : Nat → G2
  | 0 => c
  | j + 1 => tl (spr c j) j
theorem Hd_spr {c : G2} (hG : Hd c) : ∀ j, Hd (spr c j)
  | 0 => hG
  | j + 1 => Hd_tl (Hd_spr hG j)
theorem spr_o {c : G2} {i k : Nat} (h3 : i ≠ 3) (h2 : i ≠ 2) (h6 : i ≠ 6) (h16 : ¬ (i = 16 ∧ k = 2)) : ∀ j, spr c j i k = c i k
  | 0 => rfl
  | j + 1 => by
    show tl (spr c j) j i k = _
    rw [tl_o h3 h2 h6 h16, spr_o h3 h2 h6 h16 j]
theorem orb : ∀ j, j < 8 → ∀ v, v < 128 → v < 2 ^ j → nI v ||| (nI 1 <<< (nI j &&& nI 31)) = nI (v + 2 ^ j) := by decide +kernel
def ouV (c : G2) : Nat → Nat
  | 0 => 0
  | j + 1 => if c 3 j = 0 then ouV c j else ouV c j + 2 ^ j
theorem ouV_lt {c : G2} : ∀ j, ouV c j < 2 ^ j
  | 0 => by show 0 < 1; decide
  | j + 1 => by
    have := ouV_lt (c := c) j
    simp only [ouV]
    split <;> omega
theorem ouN_e {c : G2} : ∀ j, j ≤ 5 → ouN c j = nI (ouV c j)
  | 0, _ => rfl
  | j + 1, h => by
    have e := ouN_e (c := c) j (by omega)
    have l := ouV_lt (c := c) j
    have l2 : 2 ^ j ≤ 2 ^ 5 := Nat.pow_le_pow_right (by decide) (by omega)
    simp only [ouN, ouV]
    split
    · exact e
    · rw [e]; exact orb j (by omega) _ (by omega) l
def pc (v : Nat) : Nat := v % 2 + v / 2 % 2 + v / 4 % 2 + v / 8 % 2 + v / 16 % 2 + v / 32 % 2 + v / 64 % 2
theorem bc_0 : ∀ v, v < 128 → f_J6_bitCount_0f7a4 (nI v) = some (nI (pc v)) := by decide +kernel
theorem bc_5 : ∀ v, v < 128 → f_X5_bits (nI v) = some (nI (pc v)) := by decide +kernel
theorem X4_spr {c ct : G2} {Gn Gt k g w z q : St} (hG : Gd c) (hZ : Zc ct) {p : Nat} (hp : p ≤ 1) : f_X4_spree (hs c Gn) (hs ct Gt) k g w z q (nI p) = some (if p = 0 then nI (pc (ouV (spr c (c 16 1)) (c 16 0))) else nI (spr c (c 16 1) 16 2), hs (spr c (c 16 1)) Gt, q) := by
  have hI := hG.1
  have hN := hI.2.2.1
  have hN5 := hI.2.1
  have e1 := X0_copyFrom (G := Gn) (Gt := Gt) hG.2.1 hZ
  have hH := Hd_spr hG.hd (c 16 1)
  have e2 := X0_outBits (G := Gt) hH.1
  have o0 : spr c (c 16 1) 16 0 = c 16 0 := spr_o (by decide) (by decide) (by decide) (by decide) _
  have l := ouV_lt (c := spr c (c 16 1)) (c 16 0)
  have l2 : 2 ^ (c 16 0) ≤ 2 ^ 5 := Nat.pow_le_pow_right (by decide) (by omega)
  have e3 : ouB (spr c (c 16 1)) = nI (ouV (spr c (c 16 1)) (c 16 0)) := by
    unfold ouB
    rw [o0, ouN_e _ (by omega)]
  rw [e3] at e2
  have e4 := bc_0 (ouV (spr c (c 16 1)) (c 16 0)) (by omega)
  unfold f_X4_spree
  rcases (show p = 0 ∨ p = 1 by omega) with rfl | rfl
  · simp (disch := omega) only [gi_nI, tn_nI, hs_1, hs_2, hs_3, hs_4, hs_5, hs_6, hs_7, hs_s, hs_m, hs_h, hs_t, lit_nI, nI_add, nI_mul, nI_eq, nI_leI, nI_ltI, nm_i, bd_s, Nat.one_ne_zero, Nat.zero_ne_one, Nat.reduceEqDiff, Nat.reduceLeDiff, Nat.reduceLT, Nat.reduceAdd, Nat.reduceSub, Nat.reduceMul, e10, e01, en1, en2, en3, en4, en6, rq1, rq2, rq3, rq4, rq6, rm1, rm2, rm3, rm4, rm6, fz0, fz1, X5_bound_e, X5_isIn_e, Nat.lt_irrefl, Nat.le_refl, Nat.not_lt_zero, Nat.zero_le, n9a, n9b, n9c, n9d, n9e, n9f, n9g, e1, ↓reduceIte]
    refine lp_d (S := fun j => (nI j, hs (spr c j) Gt)) (c 16 1) rfl (fun j hj nx => ?_) (fun nx => ?_) (by omega)
    · have h1 : ¬ c 16 1 ≤ j := by omega
      have e5 := X0_wd (G := Gt) (Hd_spr hG.hd j).1 (show j < 2147483648 by omega)
      simp (disch := omega) only [gi_nI, tn_nI, hs_1, hs_2, hs_3, hs_4, hs_5, hs_6, hs_7, hs_s, hs_m, hs_h, hs_t, lit_nI, nI_add, nI_mul, nI_eq, nI_leI, nI_ltI, nm_i, bd_s, Nat.one_ne_zero, Nat.zero_ne_one, Nat.reduceEqDiff, Nat.reduceLeDiff, Nat.reduceLT, Nat.reduceAdd, Nat.reduceSub, Nat.reduceMul, e10, e01, en1, en2, en3, en4, en6, rq1, rq2, rq3, rq4, rq6, rm1, rm2, rm3, rm4, rm6, fz0, fz1, X5_bound_e, X5_isIn_e, Nat.lt_irrefl, Nat.le_refl, Nat.not_lt_zero, Nat.zero_le, n9a, n9b, n9c, n9d, n9e, n9f, n9g, h1, e5, ↓reduceIte]
      rfl
    · simp (disch := omega) only [gi_nI, tn_nI, hs_1, hs_2, hs_3, hs_4, hs_5, hs_6, hs_7, hs_s, hs_m, hs_h, hs_t, lit_nI, nI_add, nI_mul, nI_eq, nI_leI, nI_ltI, nm_i, bd_s, Nat.one_ne_zero, Nat.zero_ne_one, Nat.reduceEqDiff, Nat.reduceLeDiff, Nat.reduceLT, Nat.reduceAdd, Nat.reduceSub, Nat.reduceMul, e10, e01, en1, en2, en3, en4, en6, rq1, rq2, rq3, rq4, rq6, rm1, rm2, rm3, rm4, rm6, fz0, fz1, X5_bound_e, X5_isIn_e, Nat.lt_irrefl, Nat.le_refl, Nat.not_lt_zero, Nat.zero_le, n9a, n9b, n9c, n9d, n9e, n9f, n9g, e2, e4, ↓reduceIte]
  · simp (disch := omega) only [gi_nI, tn_nI, hs_1, hs_2, hs_3, hs_4, hs_5, hs_6, hs_7, hs_s, hs_m, hs_h, hs_t, lit_nI, nI_add, nI_mul, nI_eq, nI_leI, nI_ltI, nm_i, bd_s, Nat.one_ne_zero, Nat.zero_ne_one, Nat.reduceEqDiff, Nat.reduceLeDiff, Nat.reduceLT, Nat.reduceAdd, Nat.reduceSub, Nat.reduceMul, e10, e01, en1, en2, en3, en4, en6, rq1, rq2, rq3, rq4, rq6, rm1, rm2, rm3, rm4, rm6, fz0, fz1, X5_bound_e, X5_isIn_e, Nat.lt_irrefl, Nat.le_refl, Nat.not_lt_zero, Nat.zero_le, n9a, n9b, n9c, n9d, n9e, n9f, n9g, e1, ↓reduceIte]
    refine lp_d (S := fun j => (nI j, hs (spr c j) Gt)) (c 16 1) rfl (fun j hj nx => ?_) (fun nx => ?_) (by omega)
    · have h1 : ¬ c 16 1 ≤ j := by omega
      have e5 := X0_wd (G := Gt) (Hd_spr hG.hd j).1 (show j < 2147483648 by omega)
      simp (disch := omega) only [gi_nI, tn_nI, hs_1, hs_2, hs_3, hs_4, hs_5, hs_6, hs_7, hs_s, hs_m, hs_h, hs_t, lit_nI, nI_add, nI_mul, nI_eq, nI_leI, nI_ltI, nm_i, bd_s, Nat.one_ne_zero, Nat.zero_ne_one, Nat.reduceEqDiff, Nat.reduceLeDiff, Nat.reduceLT, Nat.reduceAdd, Nat.reduceSub, Nat.reduceMul, e10, e01, en1, en2, en3, en4, en6, rq1, rq2, rq3, rq4, rq6, rm1, rm2, rm3, rm4, rm6, fz0, fz1, X5_bound_e, X5_isIn_e, Nat.lt_irrefl, Nat.le_refl, Nat.not_lt_zero, Nat.zero_le, n9a, n9b, n9c, n9d, n9e, n9f, n9g, h1, e5, ↓reduceIte]
      rfl
    · simp (disch := omega) only [gi_nI, tn_nI, hs_1, hs_2, hs_3, hs_4, hs_5, hs_6, hs_7, hs_s, hs_m, hs_h, hs_t, lit_nI, nI_add, nI_mul, nI_eq, nI_leI, nI_ltI, nm_i, bd_s, Nat.one_ne_zero, Nat.zero_ne_one, Nat.reduceEqDiff, Nat.reduceLeDiff, Nat.reduceLT, Nat.reduceAdd, Nat.reduceSub, Nat.reduceMul, e10, e01, en1, en2, en3, en4, en6, rq1, rq2, rq3, rq4, rq6, rm1, rm2, rm3, rm4, rm6, fz0, fz1, X5_bound_e, X5_isIn_e, Nat.lt_irrefl, Nat.le_refl, Nat.not_lt_zero, Nat.zero_le, n9a, n9b, n9c, n9d, n9e, n9f, n9g, ↓reduceIte]
theorem X5_spr {c kc : G2} {GM g w q : St} (hG : Gd c) (hS : Sx kc g w q GM) {p : Nat} (hp : p ≤ 1) : ∃ G', f_X5_spree (hs c GM) (nI p) = some (if p = 0 then nI (pc (ouV (spr c (c 16 1)) (c 16 0))) else nI (spr c (c 16 1) 16 2), hs c G') ∧ Sx kc g w q G' := by
  have hI := hG.1
  have hN := hI.2.2.1
  have hN5 := hI.2.1
  have hH := Hd_spr hG.hd (c 16 1)
  obtain ⟨GT, t1, t2, t3⟩ := TF hS hG.2.1
  obtain ⟨G', t4, t5⟩ := t3 (spr c (c 16 1)) hH.2.1 GT rfl t2
  have e2 := X5_outOnes (G := GT) hH.1
  have o0 : spr c (c 16 1) 16 0 = c 16 0 := spr_o (by decide) (by decide) (by decide) (by decide) _
  have o1 : ∀ j, spr c j 16 1 = c 16 1 := spr_o (by decide) (by decide) (by decide) (by decide)
  have l := ouV_lt (c := spr c (c 16 1)) (c 16 0)
  have l2 : 2 ^ (c 16 0) ≤ 2 ^ 5 := Nat.pow_le_pow_right (by decide) (by omega)
  have e3 : ouB (spr c (c 16 1)) = nI (ouV (spr c (c 16 1)) (c 16 0)) := by
    unfold ouB
    rw [o0, ouN_e _ (by omega)]
  rw [e3] at e2
  have e4 := bc_5 (ouV (spr c (c 16 1)) (c 16 0)) (by omega)
  refine ⟨G', ?_, t5⟩
  unfold f_X5_spree
  have hp1 : ¬ 1 < p := by omega
  simp (disch := omega) only [gi_nI, tn_nI, hs_1, hs_2, hs_3, hs_4, hs_5, hs_6, hs_7, hs_s, hs_m, hs_h, hs_t, lit_nI, nI_add, nI_mul, nI_eq, nI_leI, nI_ltI, nm_i, bd_s, Nat.one_ne_zero, Nat.zero_ne_one, Nat.reduceEqDiff, Nat.reduceLeDiff, Nat.reduceLT, Nat.reduceAdd, Nat.reduceSub, Nat.reduceMul, e10, e01, en1, en2, en3, en4, en6, rq1, rq2, rq3, rq4, rq6, rm1, rm2, rm3, rm4, rm6, fz0, fz1, X5_bound_e, X5_isIn_e, Nat.lt_irrefl, Nat.le_refl, Nat.not_lt_zero, Nat.zero_le, n9a, n9b, n9c, n9d, n9e, n9f, n9g, hp1, t1, ↓reduceIte]
  refine lp_d (S := fun j => (nI j, hs (spr c j) GT)) (c 16 1) rfl (fun j hj nx => ?_) (fun nx => ?_) (by omega)
  · have h1 : ¬ c 16 1 ≤ j := by omega
    have hHj := Hd_spr hG.hd j
    have o1j := o1 j
    rcases tell_or hHj.1 (show j < 2147483648 by omega) with ⟨hx, ht⟩ | ⟨hx, ht⟩
    · have e5 := (ht GT).2
      have e6 := X5_tellsOne (G := GT) hHj.1 hx.1 hx.2.1
      have e7 : spr c (j + 1) = tel (spr c j) j := by
        show tl (spr c j) j = _
        unfold tl
        rw [if_pos hx]
      rw [e7]
      simp (disch := omega) only [gi_nI, tn_nI, hs_1, hs_2, hs_3, hs_4, hs_5, hs_6, hs_7, hs_s, hs_m, hs_h, hs_t, lit_nI, nI_add, nI_mul, nI_eq, nI_leI, nI_ltI, nm_i, bd_s, Nat.one_ne_zero, Nat.zero_ne_one, Nat.reduceEqDiff, Nat.reduceLeDiff, Nat.reduceLT, Nat.reduceAdd, Nat.reduceSub, Nat.reduceMul, e10, e01, en1, en2, en3, en4, en6, rq1, rq2, rq3, rq4, rq6, rm1, rm2, rm3, rm4, rm6, fz0, fz1, X5_bound_e, X5_isIn_e, Nat.lt_irrefl, Nat.le_refl, Nat.not_lt_zero, Nat.zero_le, n9a, n9b, n9c, n9d, n9e, n9f, n9g, o1j, h1, e5, e6, ↓reduceIte]
    · have e5 := (ht GT).2
      have e7 : spr c (j + 1) = spr c j := by
        show tl (spr c j) j = _
        unfold tl
        rw [if_neg hx]
      rw [e7]
      simp (disch := omega) only [gi_nI, tn_nI, hs_1, hs_2, hs_3, hs_4, hs_5, hs_6, hs_7, hs_s, hs_m, hs_h, hs_t, lit_nI, nI_add, nI_mul, nI_eq, nI_leI, nI_ltI, nm_i, bd_s, Nat.one_ne_zero, Nat.zero_ne_one, Nat.reduceEqDiff, Nat.reduceLeDiff, Nat.reduceLT, Nat.reduceAdd, Nat.reduceSub, Nat.reduceMul, e10, e01, en1, en2, en3, en4, en6, rq1, rq2, rq3, rq4, rq6, rm1, rm2, rm3, rm4, rm6, fz0, fz1, X5_bound_e, X5_isIn_e, Nat.lt_irrefl, Nat.le_refl, Nat.not_lt_zero, Nat.zero_le, n9a, n9b, n9c, n9d, n9e, n9f, n9g, o1j, h1, e5, ↓reduceIte]
  · have o1j := o1 (c 16 1)
    rcases (show p = 0 ∨ p = 1 by omega) with rfl | rfl
    · simp (disch := omega) only [gi_nI, tn_nI, hs_1, hs_2, hs_3, hs_4, hs_5, hs_6, hs_7, hs_s, hs_m, hs_h, hs_t, lit_nI, nI_add, nI_mul, nI_eq, nI_leI, nI_ltI, nm_i, bd_s, Nat.one_ne_zero, Nat.zero_ne_one, Nat.reduceEqDiff, Nat.reduceLeDiff, Nat.reduceLT, Nat.reduceAdd, Nat.reduceSub, Nat.reduceMul, e10, e01, en1, en2, en3, en4, en6, rq1, rq2, rq3, rq4, rq6, rm1, rm2, rm3, rm4, rm6, fz0, fz1, X5_bound_e, X5_isIn_e, Nat.lt_irrefl, Nat.le_refl, Nat.not_lt_zero, Nat.zero_le, n9a, n9b, n9c, n9d, n9e, n9f, n9g, o1j, e2, e4, t4, ↓reduceIte]
    · simp (disch := omega) only [gi_nI, tn_nI, hs_1, hs_2, hs_3, hs_4, hs_5, hs_6, hs_7, hs_s, hs_m, hs_h, hs_t, lit_nI, nI_add, nI_mul, nI_eq, nI_leI, nI_ltI, nm_i, bd_s, Nat.one_ne_zero, Nat.zero_ne_one, Nat.reduceEqDiff, Nat.reduceLeDiff, Nat.reduceLT, Nat.reduceAdd, Nat.reduceSub, Nat.reduceMul, e10, e01, en1, en2, en3, en4, en6, rq1, rq2, rq3, rq4, rq6, rm1, rm2, rm3, rm4, rm6, fz0, fz1, X5_bound_e, X5_isIn_e, Nat.lt_irrefl, Nat.le_refl, Nat.not_lt_zero, Nat.zero_le, n9a, n9b, n9c, n9d, n9e, n9f, n9g, o1j, t4, ↓reduceIte]
theorem r_spree {n t k g w z q M : St} (hR : R n t k g w z q M) (p1 : Int32) : ∃ r t' q' M', f_X4_spree n t k g w z q p1 = some (r, t', q') ∧ f_X5_spree M p1 = some (r, M') ∧ R n t' k g w z q' M' := by
  have hQ := hR
  obtain ⟨c, ct, kc, Gn, Gt, Gk, GM, rfl, rfl, rfl, rfl, hG, hZ, hK, hS⟩ := hR
  have main : ∀ p, p ≤ 1 → ∃ r t' q' M', f_X4_spree (hs c Gn) (hs ct Gt) (hs kc Gk) g w z q (nI p) = some (r, t', q') ∧ f_X5_spree (hs c GM) (nI p) = some (r, M') ∧ R (hs c Gn) t' (hs kc Gk) g w z q' M' := by
    intro p hp
    have h1 := X4_spr (Gn := Gn) (Gt := Gt) (k := hs kc Gk) (g := g) (w := w) (z := z) (q := q) hG hZ hp
    obtain ⟨G', h3, h4⟩ := X5_spr hG hS hp
    exact ⟨_, _, q, _, h1, h3, c, _, kc, Gn, Gt, Gk, G', rfl, rfl, rfl, rfl, hG, (Hd_spr hG.hd (c 16 1)).2.1, hK, h4⟩
  rcases wh01 p1 with rfl | rfl | ⟨w1, w2, w3⟩
  · exact main 0 (by omega)
  · exact main 1 (by omega)
  · refine ⟨-nI 2, _, rf q 2, rf (hs c GM) 2, ?_, ?_, hQ.ref 2⟩
    · unfold f_X4_spree
      simp (disch := omega) only [gi_nI, tn_nI, hs_1, hs_2, hs_3, hs_4, hs_5, hs_6, hs_7, hs_s, hs_m, hs_h, hs_t, lit_nI, nI_add, nI_mul, nI_eq, nI_leI, nI_ltI, nm_i, bd_s, Nat.one_ne_zero, Nat.zero_ne_one, Nat.reduceEqDiff, Nat.reduceLeDiff, Nat.reduceLT, Nat.reduceAdd, Nat.reduceSub, Nat.reduceMul, e10, e01, en1, en2, en3, en4, en6, rq1, rq2, rq3, rq4, rq6, rm1, rm2, rm3, rm4, rm6, fz0, fz1, X5_bound_e, X5_isIn_e, Nat.lt_irrefl, Nat.le_refl, Nat.not_lt_zero, Nat.zero_le, n9a, n9b, n9c, n9d, n9e, n9f, n9g, w1, w2, ↓reduceIte]
    · unfold f_X5_spree
      simp (disch := omega) only [gi_nI, tn_nI, hs_1, hs_2, hs_3, hs_4, hs_5, hs_6, hs_7, hs_s, hs_m, hs_h, hs_t, lit_nI, nI_add, nI_mul, nI_eq, nI_leI, nI_ltI, nm_i, bd_s, Nat.one_ne_zero, Nat.zero_ne_one, Nat.reduceEqDiff, Nat.reduceLeDiff, Nat.reduceLT, Nat.reduceAdd, Nat.reduceSub, Nat.reduceMul, e10, e01, en1, en2, en3, en4, en6, rq1, rq2, rq3, rq4, rq6, rm1, rm2, rm3, rm4, rm6, fz0, fz1, X5_bound_e, X5_isIn_e, Nat.lt_irrefl, Nat.le_refl, Nat.not_lt_zero, Nat.zero_le, n9a, n9b, n9c, n9d, n9e, n9f, n9g, w3, ↓reduceIte]
/-! richest -/
def rb (f : Nat → Nat) : Nat → Nat
  | 0 => 0
  | j + 1 => if f (rb f j) < f (j + 1) then j + 1 else rb f j
theorem rb_le {f : Nat → Nat} : ∀ j, rb f j ≤ j
  | 0 => Nat.le_refl 0
  | j + 1 => by
    have := rb_le (f := f) j
    simp only [rb]
    split <;> omega
theorem rb_t {f : Nat → Nat} {j : Nat} (h : f (rb f j) < f (j + 1)) : rb f (j + 1) = j + 1 := by simp only [rb]; rw [if_pos h]
theorem rb_f {f : Nat → Nat} {j : Nat} (h : ¬ f (rb f j) < f (j + 1)) : rb f (j + 1) = rb f j := by simp only [rb]; rw [if_neg h]
def rS (f : Nat → Nat) : Nat → Int32 × Int32 × Int32
  | 0 => (-nI 9, -nI 1, nI 0)
  | j + 1 => (nI (rb f j), nI (f (rb f j)), nI (j + 1))
def rM (f : Nat → Nat) : Nat → Int32 × Int32
  | 0 => (-nI 9, nI 0)
  | j + 1 => (nI (rb f j), nI (j + 1))
def rA (f : Nat → Nat) : Nat → Int32
  | 0 => -nI 9
  | j + 1 => nI (rb f j)
theorem n1b {v : Nat} (h : v < 2147483648) : (nI v ≤ -nI 1) = False := eq_false fun e => by
  have h1 : (-nI 1).toInt = -1 := by decide +kernel
  have h2 := nI_toInt h
  rw [Int32.le_iff_toInt_le] at e
  omega
theorem n9n : (-nI 9 < nI 0) = True := eq_true (by decide +kernel)
theorem X4_ri0 {c : G2} {G t k g w z q : St} (hG : Gd c) : f_X4_richest (hs c G) t k g w z q (nI 0) = some (rA (c 6) (c 16 1), q) := by
  have hI := hG.1
  have hN := hI.2.2.1
  unfold f_X4_richest
  simp (disch := omega) only [gi_nI, tn_nI, hs_1, hs_2, hs_3, hs_4, hs_5, hs_6, hs_7, hs_s, hs_m, hs_h, hs_t, lit_nI, nI_add, nI_mul, nI_eq, nI_leI, nI_ltI, nm_i, bd_s, Nat.one_ne_zero, Nat.zero_ne_one, Nat.reduceEqDiff, Nat.reduceLeDiff, Nat.reduceLT, Nat.reduceAdd, Nat.reduceSub, Nat.reduceMul, e10, e01, en1, en2, en3, en4, en6, rq1, rq2, rq3, rq4, rq6, rm1, rm2, rm3, rm4, rm6, fz0, fz1, X5_bound_e, X5_isIn_e, Nat.lt_irrefl, Nat.le_refl, Nat.not_lt_zero, Nat.zero_le, n9a, n9b, n9c, n9d, n9e, n9f, n9g, ↓reduceIte]
  refine lp_d (S := rS (c 6)) (c 16 1) rfl (fun j hj nx => ?_) (fun nx => ?_) (by omega)
  · have b := hI.1 6
    cases j with
    | zero =>
      have b0 := b 0
      have h1 : ¬ c 16 1 ≤ 0 := by omega
      show _ = nx (nI 0, nI (c 6 0), nI 1)
      simp only [rS]
      simp (disch := omega) only [gi_nI, tn_nI, hs_1, hs_2, hs_3, hs_4, hs_5, hs_6, hs_7, hs_s, hs_m, hs_h, hs_t, lit_nI, nI_add, nI_mul, nI_eq, nI_leI, nI_ltI, nm_i, bd_s, Nat.one_ne_zero, Nat.zero_ne_one, Nat.reduceEqDiff, Nat.reduceLeDiff, Nat.reduceLT, Nat.reduceAdd, Nat.reduceSub, Nat.reduceMul, e10, e01, en1, en2, en3, en4, en6, rq1, rq2, rq3, rq4, rq6, rm1, rm2, rm3, rm4, rm6, fz0, fz1, X5_bound_e, X5_isIn_e, Nat.lt_irrefl, Nat.le_refl, Nat.not_lt_zero, Nat.zero_le, n9a, n9b, n9c, n9d, n9e, n9f, n9g, h1, n1b, ↓reduceIte]
    | succ j =>
      have b0 := b (j + 1)
      have b1 := b (rb (c 6) j)
      have h1 : ¬ c 16 1 ≤ j + 1 := by omega
      simp only [rS]
      by_cases h : c 6 (rb (c 6) j) < c 6 (j + 1)
      · rw [rb_t h]
        have h2 : ¬ c 6 (j + 1) ≤ c 6 (rb (c 6) j) := by omega
        simp (disch := omega) only [gi_nI, tn_nI, hs_1, hs_2, hs_3, hs_4, hs_5, hs_6, hs_7, hs_s, hs_m, hs_h, hs_t, lit_nI, nI_add, nI_mul, nI_eq, nI_leI, nI_ltI, nm_i, bd_s, Nat.one_ne_zero, Nat.zero_ne_one, Nat.reduceEqDiff, Nat.reduceLeDiff, Nat.reduceLT, Nat.reduceAdd, Nat.reduceSub, Nat.reduceMul, e10, e01, en1, en2, en3, en4, en6, rq1, rq2, rq3, rq4, rq6, rm1, rm2, rm3, rm4, rm6, fz0, fz1, X5_bound_e, X5_isIn_e, Nat.lt_irrefl, Nat.le_refl, Nat.not_lt_zero, Nat.zero_le, n9a, n9b, n9c, n9d, n9e, n9f, n9g, h1, h2, ↓reduceIte]
      · rw [rb_f h]
        have h2 : c 6 (j + 1) ≤ c 6 (rb (c 6) j) := by omega
        simp (disch := omega) only [gi_nI, tn_nI, hs_1, hs_2, hs_3, hs_4, hs_5, hs_6, hs_7, hs_s, hs_m, hs_h, hs_t, lit_nI, nI_add, nI_mul, nI_eq, nI_leI, nI_ltI, nm_i, bd_s, Nat.one_ne_zero, Nat.zero_ne_one, Nat.reduceEqDiff, Nat.reduceLeDiff, Nat.reduceLT, Nat.reduceAdd, Nat.reduceSub, Nat.reduceMul, e10, e01, en1, en2, en3, en4, en6, rq1, rq2, rq3, rq4, rq6, rm1, rm2, rm3, rm4, rm6, fz0, fz1, X5_bound_e, X5_isIn_e, Nat.lt_irrefl, Nat.le_refl, Nat.not_lt_zero, Nat.zero_le, n9a, n9b, n9c, n9d, n9e, n9f, n9g, h1, h2, ↓reduceIte]
  · generalize c 16 1 = N at *
    cases N with
    | zero => simp only [rS, rA]; simp (disch := omega) only [gi_nI, tn_nI, hs_1, hs_2, hs_3, hs_4, hs_5, hs_6, hs_7, hs_s, hs_m, hs_h, hs_t, lit_nI, nI_add, nI_mul, nI_eq, nI_leI, nI_ltI, nm_i, bd_s, Nat.one_ne_zero, Nat.zero_ne_one, Nat.reduceEqDiff, Nat.reduceLeDiff, Nat.reduceLT, Nat.reduceAdd, Nat.reduceSub, Nat.reduceMul, e10, e01, en1, en2, en3, en4, en6, rq1, rq2, rq3, rq4, rq6, rm1, rm2, rm3, rm4, rm6, fz0, fz1, X5_bound_e, X5_isIn_e, Nat.lt_irrefl, Nat.le_refl, Nat.not_lt_zero, Nat.zero_le, n9a, n9b, n9c, n9d, n9e, n9f, n9g, ↓reduceIte]
    | succ j => simp only [rS, rA]; simp (disch := omega) only [gi_nI, tn_nI, hs_1, hs_2, hs_3, hs_4, hs_5, hs_6, hs_7, hs_s, hs_m, hs_h, hs_t, lit_nI, nI_add, nI_mul, nI_eq, nI_leI, nI_ltI, nm_i, bd_s, Nat.one_ne_zero, Nat.zero_ne_one, Nat.reduceEqDiff, Nat.reduceLeDiff, Nat.reduceLT, Nat.reduceAdd, Nat.reduceSub, Nat.reduceMul, e10, e01, en1, en2, en3, en4, en6, rq1, rq2, rq3, rq4, rq6, rm1, rm2, rm3, rm4, rm6, fz0, fz1, X5_bound_e, X5_isIn_e, Nat.lt_irrefl, Nat.le_refl, Nat.not_lt_zero, Nat.zero_le, n9a, n9b, n9c, n9d, n9e, n9f, n9g, ↓reduceIte]
theorem X4_ri1 {c : G2} {G t k g w z q : St} (hG : Gd c) : f_X4_richest (hs c G) t k g w z q (nI 1) = some (rA (wth c) (c 16 1), q) := by
  have hI := hG.1
  have hN := hI.2.2.1
  unfold f_X4_richest
  simp (disch := omega) only [gi_nI, tn_nI, hs_1, hs_2, hs_3, hs_4, hs_5, hs_6, hs_7, hs_s, hs_m, hs_h, hs_t, lit_nI, nI_add, nI_mul, nI_eq, nI_leI, nI_ltI, nm_i, bd_s, Nat.one_ne_zero, Nat.zero_ne_one, Nat.reduceEqDiff, Nat.reduceLeDiff, Nat.reduceLT, Nat.reduceAdd, Nat.reduceSub, Nat.reduceMul, e10, e01, en1, en2, en3, en4, en6, rq1, rq2, rq3, rq4, rq6, rm1, rm2, rm3, rm4, rm6, fz0, fz1, X5_bound_e, X5_isIn_e, Nat.lt_irrefl, Nat.le_refl, Nat.not_lt_zero, Nat.zero_le, n9a, n9b, n9c, n9d, n9e, n9f, n9g, ↓reduceIte]
  refine lp_d (S := rS (wth c)) (c 16 1) rfl (fun j hj nx => ?_) (fun nx => ?_) (by omega)
  · have b := fun m => wth_le (m := m) hI
    have e := X0_worth (G := G) hI (show j < 8 by omega)
    cases j with
    | zero =>
      have b0 := b 0
      have h1 : ¬ c 16 1 ≤ 0 := by omega
      show _ = nx (nI 0, nI (wth c 0), nI 1)
      simp only [rS]
      simp (disch := omega) only [gi_nI, tn_nI, hs_1, hs_2, hs_3, hs_4, hs_5, hs_6, hs_7, hs_s, hs_m, hs_h, hs_t, lit_nI, nI_add, nI_mul, nI_eq, nI_leI, nI_ltI, nm_i, bd_s, Nat.one_ne_zero, Nat.zero_ne_one, Nat.reduceEqDiff, Nat.reduceLeDiff, Nat.reduceLT, Nat.reduceAdd, Nat.reduceSub, Nat.reduceMul, e10, e01, en1, en2, en3, en4, en6, rq1, rq2, rq3, rq4, rq6, rm1, rm2, rm3, rm4, rm6, fz0, fz1, X5_bound_e, X5_isIn_e, Nat.lt_irrefl, Nat.le_refl, Nat.not_lt_zero, Nat.zero_le, n9a, n9b, n9c, n9d, n9e, n9f, n9g, h1, n1b, e, ↓reduceIte]
    | succ j =>
      have b0 := b (j + 1)
      have b1 := b (rb (wth c) j)
      have h1 : ¬ c 16 1 ≤ j + 1 := by omega
      simp only [rS]
      by_cases h : wth c (rb (wth c) j) < wth c (j + 1)
      · rw [rb_t h]
        have h2 : ¬ wth c (j + 1) ≤ wth c (rb (wth c) j) := by omega
        simp (disch := omega) only [gi_nI, tn_nI, hs_1, hs_2, hs_3, hs_4, hs_5, hs_6, hs_7, hs_s, hs_m, hs_h, hs_t, lit_nI, nI_add, nI_mul, nI_eq, nI_leI, nI_ltI, nm_i, bd_s, Nat.one_ne_zero, Nat.zero_ne_one, Nat.reduceEqDiff, Nat.reduceLeDiff, Nat.reduceLT, Nat.reduceAdd, Nat.reduceSub, Nat.reduceMul, e10, e01, en1, en2, en3, en4, en6, rq1, rq2, rq3, rq4, rq6, rm1, rm2, rm3, rm4, rm6, fz0, fz1, X5_bound_e, X5_isIn_e, Nat.lt_irrefl, Nat.le_refl, Nat.not_lt_zero, Nat.zero_le, n9a, n9b, n9c, n9d, n9e, n9f, n9g, h1, h2, e, ↓reduceIte]
      · rw [rb_f h]
        have h2 : wth c (j + 1) ≤ wth c (rb (wth c) j) := by omega
        simp (disch := omega) only [gi_nI, tn_nI, hs_1, hs_2, hs_3, hs_4, hs_5, hs_6, hs_7, hs_s, hs_m, hs_h, hs_t, lit_nI, nI_add, nI_mul, nI_eq, nI_leI, nI_ltI, nm_i, bd_s, Nat.one_ne_zero, Nat.zero_ne_one, Nat.reduceEqDiff, Nat.reduceLeDiff, Nat.reduceLT, Nat.reduceAdd, Nat.reduceSub, Nat.reduceMul, e10, e01, en1, en2, en3, en4, en6, rq1, rq2, rq3, rq4, rq6, rm1, rm2, rm3, rm4, rm6, fz0, fz1, X5_bound_e, X5_isIn_e, Nat.lt_irrefl, Nat.le_refl, Nat.not_lt_zero, Nat.zero_le, n9a, n9b, n9c, n9d, n9e, n9f, n9g, h1, h2, e, ↓reduceIte]
  · generalize hN2 : c 16 1 = N at *
    cases N with
    | zero => simp only [rS, rA]; simp (disch := omega) only [gi_nI, tn_nI, hs_1, hs_2, hs_3, hs_4, hs_5, hs_6, hs_7, hs_s, hs_m, hs_h, hs_t, lit_nI, nI_add, nI_mul, nI_eq, nI_leI, nI_ltI, nm_i, bd_s, Nat.one_ne_zero, Nat.zero_ne_one, Nat.reduceEqDiff, Nat.reduceLeDiff, Nat.reduceLT, Nat.reduceAdd, Nat.reduceSub, Nat.reduceMul, e10, e01, en1, en2, en3, en4, en6, rq1, rq2, rq3, rq4, rq6, rm1, rm2, rm3, rm4, rm6, fz0, fz1, X5_bound_e, X5_isIn_e, Nat.lt_irrefl, Nat.le_refl, Nat.not_lt_zero, Nat.zero_le, n9a, n9b, n9c, n9d, n9e, n9f, n9g, hN2, ↓reduceIte]
    | succ j => simp only [rS, rA]; simp (disch := omega) only [gi_nI, tn_nI, hs_1, hs_2, hs_3, hs_4, hs_5, hs_6, hs_7, hs_s, hs_m, hs_h, hs_t, lit_nI, nI_add, nI_mul, nI_eq, nI_leI, nI_ltI, nm_i, bd_s, Nat.one_ne_zero, Nat.zero_ne_one, Nat.reduceEqDiff, Nat.reduceLeDiff, Nat.reduceLT, Nat.reduceAdd, Nat.reduceSub, Nat.reduceMul, e10, e01, en1, en2, en3, en4, en6, rq1, rq2, rq3, rq4, rq6, rm1, rm2, rm3, rm4, rm6, fz0, fz1, X5_bound_e, X5_isIn_e, Nat.lt_irrefl, Nat.le_refl, Nat.not_lt_zero, Nat.zero_le, n9a, n9b, n9c, n9d, n9e, n9f, n9g, hN2, ↓reduceIte]
theorem X5_ri0 {c : G2} {G : St} (hG : Gd c) : f_X5_richest (hs c G) (nI 0) = some (rA (c 6) (c 16 1), hs c G) := by
  have hI := hG.1
  have hN := hI.2.2.1
  unfold f_X5_richest
  simp (disch := omega) only [gi_nI, tn_nI, hs_1, hs_2, hs_3, hs_4, hs_5, hs_6, hs_7, hs_s, hs_m, hs_h, hs_t, lit_nI, nI_add, nI_mul, nI_eq, nI_leI, nI_ltI, nm_i, bd_s, Nat.one_ne_zero, Nat.zero_ne_one, Nat.reduceEqDiff, Nat.reduceLeDiff, Nat.reduceLT, Nat.reduceAdd, Nat.reduceSub, Nat.reduceMul, e10, e01, en1, en2, en3, en4, en6, rq1, rq2, rq3, rq4, rq6, rm1, rm2, rm3, rm4, rm6, fz0, fz1, X5_bound_e, X5_isIn_e, Nat.lt_irrefl, Nat.le_refl, Nat.not_lt_zero, Nat.zero_le, n9a, n9b, n9c, n9d, n9e, n9f, n9g, ↓reduceIte]
  refine lp_d (S := rM (c 6)) (c 16 1) rfl (fun j hj nx => ?_) (fun nx => ?_) (by omega)
  · have b := hI.1 6
    cases j with
    | zero =>
      have h1 : ¬ c 16 1 ≤ 0 := by omega
      show _ = nx (nI 0, nI 1)
      simp only [rM]
      simp (disch := omega) only [gi_nI, tn_nI, hs_1, hs_2, hs_3, hs_4, hs_5, hs_6, hs_7, hs_s, hs_m, hs_h, hs_t, lit_nI, nI_add, nI_mul, nI_eq, nI_leI, nI_ltI, nm_i, bd_s, Nat.one_ne_zero, Nat.zero_ne_one, Nat.reduceEqDiff, Nat.reduceLeDiff, Nat.reduceLT, Nat.reduceAdd, Nat.reduceSub, Nat.reduceMul, e10, e01, en1, en2, en3, en4, en6, rq1, rq2, rq3, rq4, rq6, rm1, rm2, rm3, rm4, rm6, fz0, fz1, X5_bound_e, X5_isIn_e, Nat.lt_irrefl, Nat.le_refl, Nat.not_lt_zero, Nat.zero_le, n9a, n9b, n9c, n9d, n9e, n9f, n9g, h1, n9n, ↓reduceIte]
    | succ j =>
      have b0 := b (j + 1)
      have b1 := b (rb (c 6) j)
      have b2 := rb_le (f := c 6) j
      have h1 : ¬ c 16 1 ≤ j + 1 := by omega
      simp only [rM]
      by_cases h : c 6 (rb (c 6) j) < c 6 (j + 1)
      · rw [rb_t h]
        have h2 : ¬ c 6 (j + 1) ≤ c 6 (rb (c 6) j) := by omega
        simp (disch := omega) only [gi_nI, tn_nI, hs_1, hs_2, hs_3, hs_4, hs_5, hs_6, hs_7, hs_s, hs_m, hs_h, hs_t, lit_nI, nI_add, nI_mul, nI_eq, nI_leI, nI_ltI, nm_i, bd_s, Nat.one_ne_zero, Nat.zero_ne_one, Nat.reduceEqDiff, Nat.reduceLeDiff, Nat.reduceLT, Nat.reduceAdd, Nat.reduceSub, Nat.reduceMul, e10, e01, en1, en2, en3, en4, en6, rq1, rq2, rq3, rq4, rq6, rm1, rm2, rm3, rm4, rm6, fz0, fz1, X5_bound_e, X5_isIn_e, Nat.lt_irrefl, Nat.le_refl, Nat.not_lt_zero, Nat.zero_le, n9a, n9b, n9c, n9d, n9e, n9f, n9g, h1, h2, ↓reduceIte]
      · rw [rb_f h]
        have h2 : c 6 (j + 1) ≤ c 6 (rb (c 6) j) := by omega
        simp (disch := omega) only [gi_nI, tn_nI, hs_1, hs_2, hs_3, hs_4, hs_5, hs_6, hs_7, hs_s, hs_m, hs_h, hs_t, lit_nI, nI_add, nI_mul, nI_eq, nI_leI, nI_ltI, nm_i, bd_s, Nat.one_ne_zero, Nat.zero_ne_one, Nat.reduceEqDiff, Nat.reduceLeDiff, Nat.reduceLT, Nat.reduceAdd, Nat.reduceSub, Nat.reduceMul, e10, e01, en1, en2, en3, en4, en6, rq1, rq2, rq3, rq4, rq6, rm1, rm2, rm3, rm4, rm6, fz0, fz1, X5_bound_e, X5_isIn_e, Nat.lt_irrefl, Nat.le_refl, Nat.not_lt_zero, Nat.zero_le, n9a, n9b, n9c, n9d, n9e, n9f, n9g, h1, h2, ↓reduceIte]
  · generalize hN2 : c 16 1 = N at *
    cases N with
    | zero => simp only [rM, rA]; simp (disch := omega) only [gi_nI, tn_nI, hs_1, hs_2, hs_3, hs_4, hs_5, hs_6, hs_7, hs_s, hs_m, hs_h, hs_t, lit_nI, nI_add, nI_mul, nI_eq, nI_leI, nI_ltI, nm_i, bd_s, Nat.one_ne_zero, Nat.zero_ne_one, Nat.reduceEqDiff, Nat.reduceLeDiff, Nat.reduceLT, Nat.reduceAdd, Nat.reduceSub, Nat.reduceMul, e10, e01, en1, en2, en3, en4, en6, rq1, rq2, rq3, rq4, rq6, rm1, rm2, rm3, rm4, rm6, fz0, fz1, X5_bound_e, X5_isIn_e, Nat.lt_irrefl, Nat.le_refl, Nat.not_lt_zero, Nat.zero_le, n9a, n9b, n9c, n9d, n9e, n9f, n9g, hN2, ↓reduceIte]
    | succ j => simp only [rM, rA]; simp (disch := omega) only [gi_nI, tn_nI, hs_1, hs_2, hs_3, hs_4, hs_5, hs_6, hs_7, hs_s, hs_m, hs_h, hs_t, lit_nI, nI_add, nI_mul, nI_eq, nI_leI, nI_ltI, nm_i, bd_s, Nat.one_ne_zero, Nat.zero_ne_one, Nat.reduceEqDiff, Nat.reduceLeDiff, Nat.reduceLT, Nat.reduceAdd, Nat.reduceSub, Nat.reduceMul, e10, e01, en1, en2, en3, en4, en6, rq1, rq2, rq3, rq4, rq6, rm1, rm2, rm3, rm4, rm6, fz0, fz1, X5_bound_e, X5_isIn_e, Nat.lt_irrefl, Nat.le_refl, Nat.not_lt_zero, Nat.zero_le, n9a, n9b, n9c, n9d, n9e, n9f, n9g, hN2, ↓reduceIte]
theorem X5_ri1 {c : G2} {G : St} (hG : Gd c) : f_X5_richest (hs c G) (nI 1) = some (rA (wth c) (c 16 1), hs c G) := by
  have hI := hG.1
  have hN := hI.2.2.1
  unfold f_X5_richest
  simp (disch := omega) only [gi_nI, tn_nI, hs_1, hs_2, hs_3, hs_4, hs_5, hs_6, hs_7, hs_s, hs_m, hs_h, hs_t, lit_nI, nI_add, nI_mul, nI_eq, nI_leI, nI_ltI, nm_i, bd_s, Nat.one_ne_zero, Nat.zero_ne_one, Nat.reduceEqDiff, Nat.reduceLeDiff, Nat.reduceLT, Nat.reduceAdd, Nat.reduceSub, Nat.reduceMul, e10, e01, en1, en2, en3, en4, en6, rq1, rq2, rq3, rq4, rq6, rm1, rm2, rm3, rm4, rm6, fz0, fz1, X5_bound_e, X5_isIn_e, Nat.lt_irrefl, Nat.le_refl, Nat.not_lt_zero, Nat.zero_le, n9a, n9b, n9c, n9d, n9e, n9f, n9g, ↓reduceIte]
  refine lp_d (S := rM (wth c)) (c 16 1) rfl (fun j hj nx => ?_) (fun nx => ?_) (by omega)
  · have b := fun m => wth_le (m := m) hI
    have e := X5_worth (G := G) hI (show j < 8 by omega)
    cases j with
    | zero =>
      have h1 : ¬ c 16 1 ≤ 0 := by omega
      show _ = nx (nI 0, nI 1)
      simp only [rM]
      simp (disch := omega) only [gi_nI, tn_nI, hs_1, hs_2, hs_3, hs_4, hs_5, hs_6, hs_7, hs_s, hs_m, hs_h, hs_t, lit_nI, nI_add, nI_mul, nI_eq, nI_leI, nI_ltI, nm_i, bd_s, Nat.one_ne_zero, Nat.zero_ne_one, Nat.reduceEqDiff, Nat.reduceLeDiff, Nat.reduceLT, Nat.reduceAdd, Nat.reduceSub, Nat.reduceMul, e10, e01, en1, en2, en3, en4, en6, rq1, rq2, rq3, rq4, rq6, rm1, rm2, rm3, rm4, rm6, fz0, fz1, X5_bound_e, X5_isIn_e, Nat.lt_irrefl, Nat.le_refl, Nat.not_lt_zero, Nat.zero_le, n9a, n9b, n9c, n9d, n9e, n9f, n9g, h1, n9n, ↓reduceIte]
    | succ j =>
      have b0 := b (j + 1)
      have b1 := b (rb (wth c) j)
      have b2 := rb_le (f := wth c) j
      have e2 := X5_worth (G := G) hI (show rb (wth c) j < 8 by omega)
      have h1 : ¬ c 16 1 ≤ j + 1 := by omega
      simp only [rM]
      by_cases h : wth c (rb (wth c) j) < wth c (j + 1)
      · rw [rb_t h]
        have h2 : ¬ wth c (j + 1) ≤ wth c (rb (wth c) j) := by omega
        simp (disch := omega) only [gi_nI, tn_nI, hs_1, hs_2, hs_3, hs_4, hs_5, hs_6, hs_7, hs_s, hs_m, hs_h, hs_t, lit_nI, nI_add, nI_mul, nI_eq, nI_leI, nI_ltI, nm_i, bd_s, Nat.one_ne_zero, Nat.zero_ne_one, Nat.reduceEqDiff, Nat.reduceLeDiff, Nat.reduceLT, Nat.reduceAdd, Nat.reduceSub, Nat.reduceMul, e10, e01, en1, en2, en3, en4, en6, rq1, rq2, rq3, rq4, rq6, rm1, rm2, rm3, rm4, rm6, fz0, fz1, X5_bound_e, X5_isIn_e, Nat.lt_irrefl, Nat.le_refl, Nat.not_lt_zero, Nat.zero_le, n9a, n9b, n9c, n9d, n9e, n9f, n9g, h1, h2, e, e2, ↓reduceIte]
      · rw [rb_f h]
        have h2 : wth c (j + 1) ≤ wth c (rb (wth c) j) := by omega
        simp (disch := omega) only [gi_nI, tn_nI, hs_1, hs_2, hs_3, hs_4, hs_5, hs_6, hs_7, hs_s, hs_m, hs_h, hs_t, lit_nI, nI_add, nI_mul, nI_eq, nI_leI, nI_ltI, nm_i, bd_s, Nat.one_ne_zero, Nat.zero_ne_one, Nat.reduceEqDiff, Nat.reduceLeDiff, Nat.reduceLT, Nat.reduceAdd, Nat.reduceSub, Nat.reduceMul, e10, e01, en1, en2, en3, en4, en6, rq1, rq2, rq3, rq4, rq6, rm1, rm2, rm3, rm4, rm6, fz0, fz1, X5_bound_e, X5_isIn_e, Nat.lt_irrefl, Nat.le_refl, Nat.not_lt_zero, Nat.zero_le, n9a, n9b, n9c, n9d, n9e, n9f, n9g, h1, h2, e, e2, ↓reduceIte]
  · generalize hN2 : c 16 1 = N at *
    cases N with
    | zero => simp only [rM, rA]; simp (disch := omega) only [gi_nI, tn_nI, hs_1, hs_2, hs_3, hs_4, hs_5, hs_6, hs_7, hs_s, hs_m, hs_h, hs_t, lit_nI, nI_add, nI_mul, nI_eq, nI_leI, nI_ltI, nm_i, bd_s, Nat.one_ne_zero, Nat.zero_ne_one, Nat.reduceEqDiff, Nat.reduceLeDiff, Nat.reduceLT, Nat.reduceAdd, Nat.reduceSub, Nat.reduceMul, e10, e01, en1, en2, en3, en4, en6, rq1, rq2, rq3, rq4, rq6, rm1, rm2, rm3, rm4, rm6, fz0, fz1, X5_bound_e, X5_isIn_e, Nat.lt_irrefl, Nat.le_refl, Nat.not_lt_zero, Nat.zero_le, n9a, n9b, n9c, n9d, n9e, n9f, n9g, hN2, ↓reduceIte]
    | succ j => simp only [rM, rA]; simp (disch := omega) only [gi_nI, tn_nI, hs_1, hs_2, hs_3, hs_4, hs_5, hs_6, hs_7, hs_s, hs_m, hs_h, hs_t, lit_nI, nI_add, nI_mul, nI_eq, nI_leI, nI_ltI, nm_i, bd_s, Nat.one_ne_zero, Nat.zero_ne_one, Nat.reduceEqDiff, Nat.reduceLeDiff, Nat.reduceLT, Nat.reduceAdd, Nat.reduceSub, Nat.reduceMul, e10, e01, en1, en2, en3, en4, en6, rq1, rq2, rq3, rq4, rq6, rm1, rm2, rm3, rm4, rm6, fz0, fz1, X5_bound_e, X5_isIn_e, Nat.lt_irrefl, Nat.le_refl, Nat.not_lt_zero, Nat.zero_le, n9a, n9b, n9c, n9d, n9e, n9f, n9g, hN2, ↓reduceIte]
theorem r_richest {n t k g w z q M : St} (hR : R n t k g w z q M) (p1 : Int32) : ∃ r q' M', f_X4_richest n t k g w z q p1 = some (r, q') ∧ f_X5_richest M p1 = some (r, M') ∧ R n t k g w z q' M' := by
  have hQ := hR
  obtain ⟨c, ct, kc, Gn, Gt, Gk, GM, rfl, rfl, rfl, rfl, hG, hZ, hK, hS⟩ := hR
  rcases wh01 p1 with rfl | rfl | ⟨w1, w2, w3⟩
  · exact ⟨_, _, _, X4_ri0 hG, X5_ri0 hG, hQ⟩
  · exact ⟨_, _, _, X4_ri1 hG, X5_ri1 hG, hQ⟩
  · refine ⟨-nI 2, rf q 2, rf (hs c GM) 2, ?_, ?_, hQ.ref 2⟩
    · unfold f_X4_richest
      simp (disch := omega) only [gi_nI, tn_nI, hs_1, hs_2, hs_3, hs_4, hs_5, hs_6, hs_7, hs_s, hs_m, hs_h, hs_t, lit_nI, nI_add, nI_mul, nI_eq, nI_leI, nI_ltI, nm_i, bd_s, Nat.one_ne_zero, Nat.zero_ne_one, Nat.reduceEqDiff, Nat.reduceLeDiff, Nat.reduceLT, Nat.reduceAdd, Nat.reduceSub, Nat.reduceMul, e10, e01, en1, en2, en3, en4, en6, rq1, rq2, rq3, rq4, rq6, rm1, rm2, rm3, rm4, rm6, fz0, fz1, X5_bound_e, X5_isIn_e, Nat.lt_irrefl, Nat.le_refl, Nat.not_lt_zero, Nat.zero_le, n9a, n9b, n9c, n9d, n9e, n9f, n9g, w1, w2, ↓reduceIte]
    · unfold f_X5_richest
      simp (disch := omega) only [gi_nI, tn_nI, hs_1, hs_2, hs_3, hs_4, hs_5, hs_6, hs_7, hs_s, hs_m, hs_h, hs_t, lit_nI, nI_add, nI_mul, nI_eq, nI_leI, nI_ltI, nm_i, bd_s, Nat.one_ne_zero, Nat.zero_ne_one, Nat.reduceEqDiff, Nat.reduceLeDiff, Nat.reduceLT, Nat.reduceAdd, Nat.reduceSub, Nat.reduceMul, e10, e01, en1, en2, en3, en4, en6, rq1, rq2, rq3, rq4, rq6, rm1, rm2, rm3, rm4, rm6, fz0, fz1, X5_bound_e, X5_isIn_e, Nat.lt_irrefl, Nat.le_refl, Nat.not_lt_zero, Nat.zero_le, n9a, n9b, n9c, n9d, n9e, n9f, n9g, w3, ↓reduceIte]
