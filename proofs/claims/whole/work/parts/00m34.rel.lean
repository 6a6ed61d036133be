/-! THE RELATION of the two sides before every call -/
def Gd (c : G2) : Prop := Iv c ∧ Zc c ∧ Ol c ∧ c 16 3 ≤ 999 ∧ ∀ m, c 6 m ≤ 9
def Sx (kc : G2) (g w q GM : St) : Prop := q 0 = GM 0 ∧ g 0 = GM 8 ∧ g 1 0 = GM 16 4 ∧ (∃ L, L ≤ 96 ∧ GM 16 4 = nI L) ∧ (∀ j, ∃ v, v ≤ 255 ∧ GM 8 j = nI v) ∧ w 0 = GM 15 ∧ w 1 0 = GM 16 10 ∧ (∃ L, L ≤ 16 ∧ GM 16 10 = nI L) ∧ q 1 0 = GM 16 7 ∧ (GM 16 7 = nI 0 ∨ (GM 16 7 = nI 1 ∧ Kp GM 0 51 kc))
def R (n t k g w z q M : St) : Prop := ∃ c ct kc Gn Gt Gk GM, n = hs c Gn ∧ t = hs ct Gt ∧ k = hs kc Gk ∧ M = hs c GM ∧ Gd c ∧ Zc ct ∧ Gd kc ∧ Sx kc g w q GM
theorem Sx.sd {kc : G2} {g w q GM q' GM' : St} (h : Sx kc g w q GM) (d : Sd q GM q' GM') : Sx kc g w q' GM' := by
  obtain ⟨s1, s2, s3, s4, s5, s6, s7, s8, s9, s10⟩ := h
  obtain ⟨d1, d2, d3, d4, d5, d6⟩ := d
  have e4 := d5 4 (by decide)
  have e7 := d5 7 (by decide)
  have e10 := d5 10 (by decide)
  refine ⟨d1 s1, by rw [d3]; exact s2, by rw [e4]; exact s3, by rw [e4]; exact s4, by rw [d3]; exact s5, by rw [d4]; exact s6, by rw [e10]; exact s7, by rw [e10]; exact s8, by rw [d2, e7]; exact s9, ?_⟩
  rw [e7]
  rcases s10 with s | ⟨s, t⟩
  · exact Or.inl s
  · refine Or.inr ⟨s, fun j hj => ?_⟩
    rw [d6 (0 + j) (by omega)]
    exact t j hj
theorem R.ref {n t k g w z q M : St} (h : R n t k g w z q M) (j : Nat) : R n t k g w z (rf q j) (rf M j) := by
  obtain ⟨c, ct, kc, Gn, Gt, Gk, GM, rfl, rfl, rfl, rfl, hG, hZ, hK, hS⟩ := h
  exact ⟨c, ct, kc, Gn, Gt, Gk, rf GM j, rfl, rfl, rfl, hs_rf, hG, hZ, hK, hS.sd (Sd.ref j)⟩
theorem rq1 {n t k g w z q : St} : f_X4_refused n t k g w z q (-nI 1) = some (-nI 1, rf q 1) := X4_ref1
theorem rq2 {n t k g w z q : St} : f_X4_refused n t k g w z q (-nI 2) = some (-nI 2, rf q 2) := X4_ref2
theorem rq3 {n t k g w z q : St} : f_X4_refused n t k g w z q (-nI 3) = some (-nI 3, rf q 3) := X4_ref3
theorem rq4 {n t k g w z q : St} : f_X4_refused n t k g w z q (-nI 4) = some (-nI 4, rf q 4) := X4_ref4
theorem rq6 {n t k g w z q : St} : f_X4_refused n t k g w z q (-nI 6) = some (-nI 6, rf q 6) := X4_ref6
theorem ng_1 : (-(-nI 1) : Int32) = nI 1 := by decide +kernel
theorem ng_2 : (-(-nI 2) : Int32) = nI 2 := by decide +kernel
theorem ng_3 : (-(-nI 3) : Int32) = nI 3 := by decide +kernel
theorem ng_4 : (-(-nI 4) : Int32) = nI 4 := by decide +kernel
theorem ng_6 : (-(-nI 6) : Int32) = nI 6 := by decide +kernel
theorem rm1 {M : St} : f_X5_no M (-nI 1) = some (-nI 1, rf M 1) := by
  unfold f_X5_no
  rw [ng_1]
  simp (disch := omega) only [gi_nI, tn_nI, hs_1, hs_2, hs_3, hs_4, hs_5, hs_6, hs_7, hs_s, hs_m, hs_h, hs_t, lit_nI, nI_add, nI_mul, nI_eq, nI_leI, nI_ltI, nm_i, bd_s, ↓reduceIte]
  rfl
theorem rm2 {M : St} : f_X5_no M (-nI 2) = some (-nI 2, rf M 2) := by
  unfold f_X5_no
  rw [ng_2]
  simp (disch := omega) only [gi_nI, tn_nI, hs_1, hs_2, hs_3, hs_4, hs_5, hs_6, hs_7, hs_s, hs_m, hs_h, hs_t, lit_nI, nI_add, nI_mul, nI_eq, nI_leI, nI_ltI, nm_i, bd_s, ↓reduceIte]
  rfl
theorem rm3 {M : St} : f_X5_no M (-nI 3) = some (-nI 3, rf M 3) := by
  unfold f_X5_no
  rw [ng_3]
  simp (disch := omega) only [gi_nI, tn_nI, hs_1, hs_2, hs_3, hs_4, hs_5, hs_6, hs_7, hs_s, hs_m, hs_h, hs_t, lit_nI, nI_add, nI_mul, nI_eq, nI_leI, nI_ltI, nm_i, bd_s, ↓reduceIte]
  rfl
theorem rm4 {M : St} : f_X5_no M (-nI 4) = some (-nI 4, rf M 4) := by
  unfold f_X5_no
  rw [ng_4]
  simp (disch := omega) only [gi_nI, tn_nI, hs_1, hs_2, hs_3, hs_4, hs_5, hs_6, hs_7, hs_s, hs_m, hs_h, hs_t, lit_nI, nI_add, nI_mul, nI_eq, nI_leI, nI_ltI, nm_i, bd_s, ↓reduceIte]
  rfl
theorem rm6 {M : St} : f_X5_no M (-nI 6) = some (-nI 6, rf M 6) := by
  unfold f_X5_no
  rw [ng_6]
  simp (disch := omega) only [gi_nI, tn_nI, hs_1, hs_2, hs_3, hs_4, hs_5, hs_6, hs_7, hs_s, hs_m, hs_h, hs_t, lit_nI, nI_add, nI_mul, nI_eq, nI_leI, nI_ltI, nm_i, bd_s, ↓reduceIte]
  rfl
theorem e10 : (nI 1 = nI 0) = False := by simp [nI]
theorem e01 : (nI 0 = nI 1) = False := by simp [nI]
theorem en4 : (-nI 4 = nI 0) = False := eq_false (by decide +kernel)
theorem en6 : (-nI 6 = nI 0) = False := eq_false (by decide +kernel)
theorem en1 : (-nI 1 = nI 0) = False := eq_false (by decide +kernel)
theorem en2 : (-nI 2 = nI 0) = False := eq_false (by decide +kernel)
theorem en3 : (-nI 3 = nI 0) = False := eq_false (by decide +kernel)
theorem n9i {v : Nat} (h : v < 2147483648) : (-nI 9).toInt = -9 ∧ (nI v).toInt = v := ⟨by decide +kernel, nI_toInt h⟩
theorem n9a {v : Nat} (h : v < 2147483648) : (nI v = -nI 9) = False := eq_false fun e => by
  have h2 := n9i h
  rw [e] at h2
  omega
theorem n9b {v : Nat} (h : v < 2147483648) : (nI v ≤ -nI 9) = False := eq_false fun e => by
  have h2 := n9i h
  rw [Int32.le_iff_toInt_le] at e
  omega
theorem n9c {v : Nat} (h : v < 2147483648) : (-nI 9 ≤ nI v) = True := eq_true (by
  have h2 := n9i h
  rw [Int32.le_iff_toInt_le]
  omega)
theorem n9d {v : Nat} (h : v < 2147483648) : (nI v < -nI 9) = False := eq_false fun e => by
  have h2 := n9i h
  rw [Int32.lt_iff_toInt_lt] at e
  omega
theorem n9e {v : Nat} (h : v < 2147483648) : (-nI 9 < nI v) = True := eq_true (by
  have h2 := n9i h
  rw [Int32.lt_iff_toInt_lt]
  omega)
theorem n9f : (-nI 9 ≤ -nI 9) = True := eq_true (by decide +kernel)
theorem n9g : (-nI 9 < -nI 9) = False := eq_false (by decide +kernel)
theorem X5_bound_e (p a b : Int32) : f_X5_bound p a b = some (if a ≤ p then (if p ≤ b then nI 0 else -nI 6) else -nI 4) := by
  unfold f_X5_bound
  split
  · split <;> rfl
  · rfl
theorem X5_isIn_e (p a b : Int32) : f_X5_isIn p a b = some (if p < a then nI 0 else if b < p then nI 0 else nI 1) := by
  unfold f_X5_isIn
  split
  · exact fz0
  · split
    · exact fz0
    · exact fz1
theorem rng {p : Int32} {b : Nat} (hb : b < 2147483648) (h0 : nI 0 ≤ p) (h1 : p ≤ nI b) : ∃ v, v ≤ b ∧ p = nI v := by
  obtain ⟨v, hv, rfl⟩ := nI_of (x := p) (by rw [Int32.not_lt]; exact h0)
  exact ⟨v, (nI_leI hv hb).mp h1, rfl⟩
theorem rng1 {p : Int32} {a b : Nat} (hb : b < 2147483648) (ha : a < 2147483648) (h0 : nI a ≤ p) (h1 : p ≤ nI b) : ∃ v, a ≤ v ∧ v ≤ b ∧ p = nI v := by
  have h2 : nI 0 ≤ p := by
    rw [Int32.le_iff_toInt_le] at h0 ⊢
    rw [nI_toInt ha] at h0
    rw [nI_toInt (by omega)]
    omega
  obtain ⟨v, hv, rfl⟩ := rng hb h2 h1
  exact ⟨v, (nI_leI ha (by omega)).mp h0, hv, rfl⟩
/-! what keeps a harbour good -/
theorem Iv_gu4 {c : G2} {k v : Nat} (hI : Iv c) (hv : v ≤ 5) : Iv (gu c 4 k v) := by
  obtain ⟨b1, b2, b3, b4, b5⟩ := hI
  refine ⟨fun i j => ?_, ?_, ?_, fun m => ?_, fun m hm => ?_⟩
  · unfold gu; split
    · omega
    · exact b1 i j
  · rw [gu_a (by decide)]; exact b2
  · rw [gu_a (by decide)]; exact b3
  · unfold gu; split
    · exact hv
    · exact b4 m
  · rw [gu_a (by decide)] at hm
    rw [gu_a (by decide), gu_a (by decide)]; exact b5 m hm
theorem Iv_gu7 {c : G2} {k v : Nat} (hI : Iv c) (hv : v < c 16 0) : Iv (gu c 7 k v) := by
  obtain ⟨b1, b2, b3, b4, b5⟩ := hI
  refine ⟨fun i j => ?_, ?_, ?_, fun m => ?_, fun m hm => ?_⟩
  · unfold gu; split
    · omega
    · exact b1 i j
  · rw [gu_a (by decide)]; exact b2
  · rw [gu_a (by decide)]; exact b3
  · rw [gu_a (by decide)]; exact b4 m
  · rw [gu_a (by decide)] at hm
    rw [gu_a (a := 7) (i := 16) (by decide)]
    unfold gu; split
    · exact hv
    · exact b5 m hm
theorem Ol_gu {c : G2} {a k v : Nat} (h : Ol c) (h3 : a ≠ 3) (h2 : a ≠ 2) : Ol (gu c a k v) := by
  intro s hs0
  rw [gu_a (Ne.symm h3)] at hs0
  rw [gu_a (Ne.symm h2)]
  exact h s hs0
theorem Gd_gu {c : G2} {a k v : Nat} (hG : Gd c) (ha : a = 1 ∨ a = 5 ∨ a = 6) (hv : v ≤ 9) (hd : vd a k) : Gd (gu c a k v) := by
  obtain ⟨g1, g2, g3, g4, g5⟩ := hG
  refine ⟨Iv_gu g1 (by omega) (by omega) (by omega) (by omega), Zc_gu g2 hd, Ol_gu g3 (by omega) (by omega), ?_, fun m => ?_⟩
  · rw [gu_a (by omega)]; exact g4
  · unfold gu; split
    · exact hv
    · exact g5 m
theorem Gd_gu4 {c : G2} {k v : Nat} (hG : Gd c) (hv : v ≤ 5) (hd : k < 8) : Gd (gu c 4 k v) := by
  obtain ⟨g1, g2, g3, g4, g5⟩ := hG
  refine ⟨Iv_gu4 g1 hv, Zc_gu g2 (vd7 (by decide) (by decide) hd), Ol_gu g3 (by omega) (by omega), ?_, fun m => ?_⟩
  · rw [gu_a (by omega)]; exact g4
  · rw [gu_a (by omega)]; exact g5 m
theorem Gd_gu7 {c : G2} {k v : Nat} (hG : Gd c) (hv : v < c 16 0) (hd : k < 8) : Gd (gu c 7 k v) := by
  obtain ⟨g1, g2, g3, g4, g5⟩ := hG
  refine ⟨Iv_gu7 g1 hv, Zc_gu g2 (vd7 (by decide) (by decide) hd), Ol_gu g3 (by omega) (by omega), ?_, fun m => ?_⟩
  · rw [gu_a (by omega)]; exact g4
  · rw [gu_a (by omega)]; exact g5 m
theorem tel_o {c : G2} {m i k : Nat} (h3 : i ≠ 3) (h2 : i ≠ 2) (h6 : i ≠ 6) (h16 : ¬ (i = 16 ∧ k = 2)) : tel c m i k = c i k := by
  unfold tel
  rw [rsJ_o h3 h2, lsn_e, lsJ_o h2 h6 h16]
theorem tel_6 {c : G2} {m k : Nat} : tel c m 6 k ≤ c 6 k := by
  unfold tel
  rw [rsJ_o (by decide) (by decide), lsn_e]
  unfold lsJ
  rw [swp_o (by decide)]
  unfold ls1
  rw [gu_a (by decide)]
  unfold gu
  split
  · rename_i h; rw [h.2]; omega
  · exact Nat.le_refl _
theorem Gd_tel {c : G2} {m : Nat} (hG : Gd c) (hm : m < c 16 1) : Gd (tel c m) := by
  obtain ⟨g1, g2, g3, g4, g5⟩ := hG
  have hN := g1.2.2.1
  refine ⟨Iv_tel g1, Zc_tel g1 g2 (by omega), Ol_tel g3, ?_, fun k => Nat.le_trans tel_6 (g5 k)⟩
  rw [tel_o (by decide) (by decide) (by decide) (by decide)]; exact g4
theorem tid_6 {c : G2} (h : ∀ k, c 6 k ≤ 9) (k : Nat) : tid c 6 k ≤ 9 := by
  rw [tid_e, td2_o (by decide)]
  unfold td1 swp
  split
  · exact Nat.min_le_left _ _
  · rw [gu_a (by decide)]; exact h k
theorem Ol_tds {c : G2} (h : Ol c) : ∀ n, Ol (tds c n)
  | 0 => h
  | n + 1 => Ol_tid (Ol_tds h n)
theorem tds_6 {c : G2} (h : ∀ k, c 6 k ≤ 9) : ∀ n k, tds c n 6 k ≤ 9
  | 0, k => h k
  | n + 1, k => tid_6 (tds_6 h n) k
theorem Gd_tds {c : G2} {n : Nat} (hG : Gd c) (hn : c 16 3 + n ≤ 999) : Gd (tds c n) := by
  obtain ⟨g1, g2, g3, g4, g5⟩ := hG
  exact ⟨Iv_tds g1 n (by omega), Zc_tds g1 g2 n (by omega), Ol_tds g3 n, by rw [tds_t]; omega, tds_6 g5 n⟩
theorem tid_o {c : G2} {i k : Nat} (h3 : i ≠ 3) (h6 : i ≠ 6) (h16 : ¬ (i = 16 ∧ k = 3)) : tid c i k = c i k := by
  rw [tid_e, td2_o h3, td1_o h6 h16]
theorem tds_o {c : G2} {i k : Nat} (h3 : i ≠ 3) (h6 : i ≠ 6) (h16 : ¬ (i = 16 ∧ k = 3)) : ∀ n, tds c n i k = c i k
  | 0 => rfl
  | n + 1 => by
    show tid (tds c n) i k = _
    rw [tid_o h3 h6 h16, tds_o h3 h6 h16 n]
