/-! THE SIMPLE CALLS -/
theorem r_letter {n t k g w z q M : St} (hR : R n t k g w z q M) (p : Int32) : ∃ r g' q' M', f_X4_letter n t k g w z q p = some (r, g', q') ∧ f_X5_letter M p = some (r, M') ∧ R n t k g' w z q' M' := by
  have hQ := hR
  unfold f_X4_letter f_X5_letter
  by_cases h1 : nI 0 ≤ p
  · by_cases h2 : p ≤ nI 255
    · have h2' : ¬ nI 255 < p := Int32.not_lt.mpr h2
      obtain ⟨v, hv, rfl⟩ := rng (by decide) h1 h2
      obtain ⟨c, ct, kc, Gn, Gt, Gk, GM, rfl, rfl, rfl, rfl, hG, hZ, hK, hS⟩ := hR
      obtain ⟨s1, s2, s3, ⟨L, hL, s4⟩, s5, s6, s7, s8, s9, s10⟩ := hS
      have e4 : hs c GM 16 4 = nI L := by rw [hs_16 (by omega), s4]
      have eg : g 1 0 = nI L := by rw [s3, s4]
      by_cases hL2 : L = 96
      · subst hL2
        refine ⟨-nI 6, g, rf q 6, rf (hs c GM) 6, ?_, ?_, hQ.ref 6⟩
        · unfold f_X1_isFull
          simp (disch := omega) only [gi_nI, tn_nI, hs_1, hs_2, hs_3, hs_4, hs_5, hs_6, hs_7, hs_s, hs_m, hs_h, hs_t, lit_nI, nI_add, nI_mul, nI_eq, nI_leI, nI_ltI, nm_i, bd_s, h1, h2', rq6, eg, fz0, fz1, e10, ↓reduceIte]
          simp [rq6, e10, fz0, fz1, bd_s]
        · simp (disch := omega) only [gi_nI, tn_nI, hs_1, hs_2, hs_3, hs_4, hs_5, hs_6, hs_7, hs_s, hs_m, hs_h, hs_t, lit_nI, nI_add, nI_mul, nI_eq, nI_leI, nI_ltI, nm_i, bd_s, X5_bound_e, h1, h2, e4, rm6, ↓reduceIte]
      · have hL3 : L < 96 := by omega
        refine ⟨nI (L + 1), su (su g 0 L (nI v)) 1 0 (nI (L + 1)), q, hs c (su (su GM 8 L (nI v)) 16 4 (nI (L + 1))), ?_, ?_, c, ct, kc, Gn, Gt, Gk, _, rfl, rfl, rfl, rfl, hG, hZ, hK, ?_⟩
        · have eg2 : su g 0 L (nI v) 1 0 = nI L := by rw [su_ne (by omega), eg]
          have hL4 : ¬ 96 ≤ L := by omega
          have e5 : su (su g 0 L (nI v)) 1 0 (nI (L + 1)) 1 0 = nI (L + 1) := su_at
          unfold f_X1_isFull f_X1_add
          simp (disch := omega) only [gi_nI, tn_nI, hs_1, hs_2, hs_3, hs_4, hs_5, hs_6, hs_7, hs_s, hs_m, hs_h, hs_t, lit_nI, nI_add, nI_mul, nI_eq, nI_leI, nI_ltI, nm_i, bd_s, h1, h2', eg, fz0, hL3, eg2, hL4, e5, ↓reduceIte]
        · have u1 : su (hs c GM) 8 L (nI v) = hs c (su GM 8 L (nI v)) := su_hso (by decide) (by decide)
          have e5 : hs c (su GM 8 L (nI v)) 16 4 = nI L := by rw [hs_16 (by omega), su_ne (by omega), s4]
          have u2 : su (hs c (su GM 8 L (nI v))) 16 4 (nI (L + 1)) = hs c (su (su GM 8 L (nI v)) 16 4 (nI (L + 1))) := su_hs16o (by decide)
          have e6 : hs c (su (su GM 8 L (nI v)) 16 4 (nI (L + 1))) 16 4 = nI (L + 1) := by rw [hs_16 (by omega), su_at]
          simp (disch := omega) only [gi_nI, tn_nI, hs_1, hs_2, hs_3, hs_4, hs_5, hs_6, hs_7, hs_s, hs_m, hs_h, hs_t, lit_nI, nI_add, nI_mul, nI_eq, nI_leI, nI_ltI, nm_i, bd_s, X5_bound_e, h1, h2, e4, hL2, u1, e5, u2, e6, ↓reduceIte]
        · refine ⟨?_, ?_, ?_, ⟨L + 1, by omega, su_at⟩, fun j => ?_, ?_, ?_, ?_, ?_, ?_⟩
          · rw [s1]; simp [su]
          · have : su (su g 0 L (nI v)) 1 0 (nI (L + 1)) 0 = upd (g 0) L (nI v) := by simp [su]
            rw [this, s2]; simp [su]
          · rw [su_at, su_at]
          · rw [su_ne (by omega)]
            by_cases hj : j = L
            · subst hj; exact ⟨v, hv, su_at⟩
            · rw [su_ne (by omega)]; exact s5 j
          · rw [s6]; simp [su]
          · rw [s7, su_ne (by omega), su_ne (by omega)]
          · rw [su_ne (by omega), su_ne (by omega)]; exact s8
          · rw [s9, su_ne (by omega), su_ne (by omega)]
          · rw [su_ne (by omega), su_ne (by omega)]
            rcases s10 with s | ⟨s, t⟩
            · exact Or.inl s
            · exact Or.inr ⟨s, fun j hj => by rw [su_ne (by omega), su_ne (by omega)]; exact t j hj⟩
    · have h2' : nI 255 < p := Int32.not_le.mp h2
      refine ⟨-nI 6, g, rf q 6, rf M 6, ?_, ?_, hQ.ref 6⟩
      · simp (disch := omega) only [gi_nI, tn_nI, hs_1, hs_2, hs_3, hs_4, hs_5, hs_6, hs_7, hs_s, hs_m, hs_h, hs_t, lit_nI, nI_add, nI_mul, nI_eq, nI_leI, nI_ltI, nm_i, bd_s, h1, h2', rq6, ↓reduceIte]
      · simp (disch := omega) only [gi_nI, tn_nI, hs_1, hs_2, hs_3, hs_4, hs_5, hs_6, hs_7, hs_s, hs_m, hs_h, hs_t, lit_nI, nI_add, nI_mul, nI_eq, nI_leI, nI_ltI, nm_i, bd_s, X5_bound_e, h1, h2, en6, rm6, ↓reduceIte]
  · refine ⟨-nI 4, g, rf q 4, rf M 4, ?_, ?_, hQ.ref 4⟩
    · simp (disch := omega) only [gi_nI, tn_nI, hs_1, hs_2, hs_3, hs_4, hs_5, hs_6, hs_7, hs_s, hs_m, hs_h, hs_t, lit_nI, nI_add, nI_mul, nI_eq, nI_leI, nI_ltI, nm_i, bd_s, h1, rq4, ↓reduceIte]
    · simp (disch := omega) only [gi_nI, tn_nI, hs_1, hs_2, hs_3, hs_4, hs_5, hs_6, hs_7, hs_s, hs_m, hs_h, hs_t, lit_nI, nI_add, nI_mul, nI_eq, nI_leI, nI_ltI, nm_i, bd_s, X5_bound_e, h1, en4, rm4, ↓reduceIte]
theorem r_row {n t k g w z q M : St} (hR : R n t k g w z q M) (p : Int32) : ∃ r w' q' M', f_X4_row n t k g w z q p = some (r, w', q') ∧ f_X5_row M p = some (r, M') ∧ R n t k g w' z q' M' := by
  have hQ := hR
  unfold f_X4_row f_X5_row
  by_cases h1 : nI 0 ≤ p
  · by_cases h2 : p ≤ nI 99
    · have h2' : ¬ nI 99 < p := Int32.not_lt.mpr h2
      obtain ⟨c, ct, kc, Gn, Gt, Gk, GM, rfl, rfl, rfl, rfl, hG, hZ, hK, hS⟩ := hR
      obtain ⟨s1, s2, s3, s4, s5, s6, s7, ⟨L, hL, s8⟩, s9, s10⟩ := hS
      have e4 : hs c GM 16 10 = nI L := by rw [hs_16 (by omega), s8]
      have eg : w 1 0 = nI L := by rw [s7, s8]
      by_cases hL2 : L = 16
      · subst hL2
        refine ⟨-nI 6, w, rf q 6, rf (hs c GM) 6, ?_, ?_, hQ.ref 6⟩
        · unfold f_X3_isFull
          simp (disch := omega) only [gi_nI, tn_nI, hs_1, hs_2, hs_3, hs_4, hs_5, hs_6, hs_7, hs_s, hs_m, hs_h, hs_t, lit_nI, nI_add, nI_mul, nI_eq, nI_leI, nI_ltI, nm_i, bd_s, h1, h2', rq6, eg, fz0, fz1, e10, ↓reduceIte]
          simp [rq6, e10, fz0, fz1, bd_s]
        · simp (disch := omega) only [gi_nI, tn_nI, hs_1, hs_2, hs_3, hs_4, hs_5, hs_6, hs_7, hs_s, hs_m, hs_h, hs_t, lit_nI, nI_add, nI_mul, nI_eq, nI_leI, nI_ltI, nm_i, bd_s, X5_bound_e, h1, h2, e4, rm6, ↓reduceIte]
      · have hL3 : L < 16 := by omega
        refine ⟨nI (L + 1), su (su w 0 L p) 1 0 (nI (L + 1)), q, hs c (su (su GM 15 L p) 16 10 (nI (L + 1))), ?_, ?_, c, ct, kc, Gn, Gt, Gk, _, rfl, rfl, rfl, rfl, hG, hZ, hK, ?_⟩
        · have eg2 : su w 0 L p 1 0 = nI L := by rw [su_ne (by omega), eg]
          have hL4 : ¬ 16 ≤ L := by omega
          have e5 : su (su w 0 L p) 1 0 (nI (L + 1)) 1 0 = nI (L + 1) := su_at
          unfold f_X3_isFull f_X3_add
          simp (disch := omega) only [gi_nI, tn_nI, hs_1, hs_2, hs_3, hs_4, hs_5, hs_6, hs_7, hs_s, hs_m, hs_h, hs_t, lit_nI, nI_add, nI_mul, nI_eq, nI_leI, nI_ltI, nm_i, bd_s, h1, h2', eg, fz0, hL3, eg2, hL4, e5, ↓reduceIte]
        · have u1 : su (hs c GM) 15 L p = hs c (su GM 15 L p) := su_hso (by decide) (by decide)
          have e5 : hs c (su GM 15 L p) 16 10 = nI L := by rw [hs_16 (by omega), su_ne (by omega), s8]
          have u2 : su (hs c (su GM 15 L p)) 16 10 (nI (L + 1)) = hs c (su (su GM 15 L p) 16 10 (nI (L + 1))) := su_hs16o (by decide)
          have e6 : hs c (su (su GM 15 L p) 16 10 (nI (L + 1))) 16 10 = nI (L + 1) := by rw [hs_16 (by omega), su_at]
          simp (disch := omega) only [gi_nI, tn_nI, hs_1, hs_2, hs_3, hs_4, hs_5, hs_6, hs_7, hs_s, hs_m, hs_h, hs_t, lit_nI, nI_add, nI_mul, nI_eq, nI_leI, nI_ltI, nm_i, bd_s, X5_bound_e, h1, h2, e4, hL2, u1, e5, u2, e6, ↓reduceIte]
        · refine ⟨?_, ?_, ?_, ?_, fun j => ?_, ?_, ?_, ⟨L + 1, by omega, su_at⟩, ?_, ?_⟩
          · rw [s1]; simp [su]
          · rw [s2]; simp [su]
          · rw [s3, su_ne (by omega), su_ne (by omega)]
          · rw [su_ne (by omega), su_ne (by omega)]; exact s4
          · rw [su_ne (by omega), su_ne (by omega)]; exact s5 j
          · have : su (su w 0 L p) 1 0 (nI (L + 1)) 0 = upd (w 0) L p := by simp [su]
            rw [this, s6]; simp [su]
          · rw [su_at, su_at]
          · rw [s9, su_ne (by omega), su_ne (by omega)]
          · rw [su_ne (by omega), su_ne (by omega)]
            rcases s10 with s | ⟨s, t⟩
            · exact Or.inl s
            · exact Or.inr ⟨s, fun j hj => by rw [su_ne (by omega), su_ne (by omega)]; exact t j hj⟩
    · have h2' : nI 99 < p := Int32.not_le.mp h2
      refine ⟨-nI 6, w, rf q 6, rf M 6, ?_, ?_, hQ.ref 6⟩
      · simp (disch := omega) only [gi_nI, tn_nI, hs_1, hs_2, hs_3, hs_4, hs_5, hs_6, hs_7, hs_s, hs_m, hs_h, hs_t, lit_nI, nI_add, nI_mul, nI_eq, nI_leI, nI_ltI, nm_i, bd_s, h1, h2', rq6, ↓reduceIte]
      · simp (disch := omega) only [gi_nI, tn_nI, hs_1, hs_2, hs_3, hs_4, hs_5, hs_6, hs_7, hs_s, hs_m, hs_h, hs_t, lit_nI, nI_add, nI_mul, nI_eq, nI_leI, nI_ltI, nm_i, bd_s, X5_bound_e, h1, h2, en6, rm6, ↓reduceIte]
  · refine ⟨-nI 4, w, rf q 4, rf M 4, ?_, ?_, hQ.ref 4⟩
    · simp (disch := omega) only [gi_nI, tn_nI, hs_1, hs_2, hs_3, hs_4, hs_5, hs_6, hs_7, hs_s, hs_m, hs_h, hs_t, lit_nI, nI_add, nI_mul, nI_eq, nI_leI, nI_ltI, nm_i, bd_s, h1, rq4, ↓reduceIte]
    · simp (disch := omega) only [gi_nI, tn_nI, hs_1, hs_2, hs_3, hs_4, hs_5, hs_6, hs_7, hs_s, hs_m, hs_h, hs_t, lit_nI, nI_add, nI_mul, nI_eq, nI_leI, nI_ltI, nm_i, bd_s, X5_bound_e, h1, en4, rm4, ↓reduceIte]
/-- the row dropped on both sides -/
theorem Sx.drop {kc : G2} {g w q GM : St} (h : Sx kc g w q GM) : Sx kc g (su w 1 0 (nI 0)) q (su GM 16 10 (nI 0)) := by
  obtain ⟨s1, s2, s3, s4, s5, s6, s7, s8, s9, s10⟩ := h
  refine ⟨?_, ?_, ?_, ?_, fun j => ?_, ?_, ?_, ⟨0, by omega, su_at⟩, ?_, ?_⟩
  · rw [s1]; simp [su]
  · rw [s2]; simp [su]
  · rw [s3, su_ne (by omega)]
  · rw [su_ne (by omega)]; exact s4
  · rw [su_ne (by omega)]; exact s5 j
  · have : su w 1 0 (nI 0) 0 = w 0 := by simp [su]
    rw [this, s6]; simp [su]
  · rw [su_at, su_at]
  · rw [s9, su_ne (by omega)]
  · rw [su_ne (by omega)]
    rcases s10 with s | ⟨s, t⟩
    · exact Or.inl s
    · exact Or.inr ⟨s, fun j hj => by rw [su_ne (by omega)]; exact t j hj⟩
theorem R.drop {n t k g w z q M : St} (h : R n t k g w z q M) : R n t k g (su w 1 0 (nI 0)) z q (su M 16 10 (nI 0)) := by
  obtain ⟨c, ct, kc, Gn, Gt, Gk, GM, rfl, rfl, rfl, rfl, hG, hZ, hK, hS⟩ := h
  exact ⟨c, ct, kc, Gn, Gt, Gk, _, rfl, rfl, rfl, su_hs16o (by decide), hG, hZ, hK, hS.drop⟩
theorem r_clear {n t k g w z q M : St} (hR : R n t k g w z q M) : ∃ r w' M', f_X4_clear n t k g w z q = some (r, w') ∧ f_X5_clear M = some (r, M') ∧ R n t k g w' z q M' := by
  refine ⟨M 16 10, su w 1 0 (nI 0), su M 16 10 (nI 0), ?_, ?_, hR.drop⟩
  · obtain ⟨c, ct, kc, Gn, Gt, Gk, GM, rfl, rfl, rfl, rfl, hG, hZ, hK, hS⟩ := hR
    have e : w 1 0 = hs c GM 16 10 := by rw [hs_16 (by omega)]; exact hS.2.2.2.2.2.2.1
    unfold f_X4_clear f_X3_drop
    simp (disch := omega) only [gi_nI, tn_nI, hs_1, hs_2, hs_3, hs_4, hs_5, hs_6, hs_7, hs_s, hs_m, hs_h, hs_t, lit_nI, nI_add, nI_mul, nI_eq, nI_leI, nI_ltI, nm_i, bd_s, e, ↓reduceIte]
  · unfold f_X5_clear
    simp (disch := omega) only [gi_nI, tn_nI, hs_1, hs_2, hs_3, hs_4, hs_5, hs_6, hs_7, hs_s, hs_m, hs_h, hs_t, lit_nI, nI_add, nI_mul, nI_eq, nI_leI, nI_ltI, nm_i, bd_s, ↓reduceIte]
/-- a loop that counts, with an early end -/
theorem lp_e {σ ρ : Type} {f : (σ → Option ρ) → σ → Option ρ} {s0 : σ} (S : Nat → σ) (g : Nat → Option ρ) (N : Nat) (h0 : s0 = S 0) (hs : ∀ j, j < N → ∀ nx, nx (S (j + 1)) = g (j + 1) → f nx (S j) = g j) (he : ∀ nx, f nx (S N) = g N) {n : Nat} (hn : N < n) : lp f n s0 = g 0 := by
  rw [h0]
  exact lp_g S g N hs he hn
/-- the first place from j on, d places to go, at which P fails -/
def fst (P : Nat → Prop) [DecidablePred P] : Nat → Nat → Int32
  | 0, _ => -nI 9
  | d + 1, j => if P j then fst P d (j + 1) else nI j
theorem nI_inj {a b : Nat} (ha : a < 2147483648) (hb : b < 2147483648) : (nI a = nI b) = (a = b) := propext (nI_eq ha hb)
def jdP (c : G2) (W : Nat → Int32) (s : Nat) : Prop := s < c 16 0 ∧ nI (hld c s) = W s
