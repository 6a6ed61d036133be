/-! THE CALLS, one by one -/
theorem nI0e : (nI 0 = 0) = True := by simp [nI]
theorem nI1e : (nI 1 = 0) = False := by simp [nI]
theorem m_boards {c : G2} {Gn GM t k g w z q : St} (hI : Iv c) (p1 p2 : Int32) : ∃ r c' q' GM', f_X4_boards (hs c Gn) t k g w z q p1 p2 = some (r, hs c' Gn, q') ∧ f_X5_boards (hs c GM) p1 p2 = some (r, hs c' GM') ∧ Sd q GM q' GM' ∧ (c' = c ∨ ∃ m s, m < c 16 1 ∧ s < c 16 0 ∧ c' = gu c 7 m s) := by
  have hN := hI.2.2.1
  have hS := hI.2.1
  unfold f_X4_boards f_X5_boards
  rcases man_or hI p1 with ⟨m, hm, rfl⟩ | hn
  · have e1 := X0_hasMan (G := Gn) hI (show m < 2147483648 by omega)
    have e2 := X5_isMan (G := GM) hI (show m < 2147483648 by omega)
    rw [if_pos hm] at e1 e2
    rcases ship_or hI p2 with ⟨s, hs1, rfl⟩ | hn2
    · have e3 := X0_hasShip (G := Gn) hI (show s < 2147483648 by omega)
      have e4 := X5_isShip (G := GM) hI (show s < 2147483648 by omega)
      rw [if_pos hs1] at e3 e4
      refine ⟨nI (c 7 m), gu c 7 m s, q, GM, ?_, ?_, Sd.id0, Or.inr ⟨m, s, hm, hs1, rfl⟩⟩
      · simp (disch := omega) only [gi_nI, tn_nI, hs_1, hs_2, hs_3, hs_4, hs_5, hs_6, hs_7, hs_s, hs_m, hs_h, hs_t, lit_nI, nI_add, nI_mul, nI_eq, nI_leI, nI_ltI, nm_i, bd_s, e1, e3, nI1e, su_hs, ↓reduceIte]
        simp
      · simp (disch := omega) only [gi_nI, tn_nI, hs_1, hs_2, hs_3, hs_4, hs_5, hs_6, hs_7, hs_s, hs_m, hs_h, hs_t, lit_nI, nI_add, nI_mul, nI_eq, nI_leI, nI_ltI, nm_i, bd_s, e2, e4, nI1e, su_hs, ↓reduceIte]
        simp
    · obtain ⟨e3, -⟩ := hn2 Gn
      obtain ⟨-, e4⟩ := hn2 GM
      refine ⟨-1, c, rf q 1, rf GM 1, ?_, ?_, Sd.ref 1, Or.inl rfl⟩
      · simp only [e1, e3, bd_s, nI1e, nI0e, X4_ref1, ↓reduceIte]
      · simp only [e2, e4, bd_s, nI1e, nI0e, X5_no1, ↓reduceIte]
  · obtain ⟨e1, -⟩ := hn Gn
    obtain ⟨-, e2⟩ := hn GM
    refine ⟨-1, c, rf q 1, rf GM 1, ?_, ?_, Sd.ref 1, Or.inl rfl⟩
    · simp only [e1, bd_s, nI0e, X4_ref1, ↓reduceIte]
    · simp only [e2, bd_s, nI0e, X5_no1, ↓reduceIte]
