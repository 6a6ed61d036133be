/-! THE SIDES: what a call may change beside the harbour -/
def Sd (q GM q' GM' : St) : Prop := (q 0 = GM 0 → q' 0 = GM' 0) ∧ q' 1 = q 1 ∧ GM' 8 = GM 8 ∧ GM' 15 = GM 15 ∧ (∀ k, k = 4 ∨ k = 7 ∨ k = 10 → GM' 16 k = GM 16 k) ∧ ∀ j, j < 51 → GM' 12 j = GM 12 j
theorem Sd.id0 {q GM : St} : Sd q GM q GM := ⟨id, rfl, rfl, rfl, fun _ _ => rfl, fun _ _ => rfl⟩
theorem Sd.tr {q GM q' GM' q'' GM'' : St} (h1 : Sd q GM q' GM') (h2 : Sd q' GM' q'' GM'') : Sd q GM q'' GM'' := ⟨fun h => h2.1 (h1.1 h), h2.2.1.trans h1.2.1, h2.2.2.1.trans h1.2.2.1, h2.2.2.2.1.trans h1.2.2.2.1, fun k hk => (h2.2.2.2.2.1 k hk).trans (h1.2.2.2.2.1 k hk), fun j hj => (h2.2.2.2.2.2 j hj).trans (h1.2.2.2.2.2 j hj)⟩
theorem Sd.ref {q GM : St} (k : Nat) : Sd q GM (rf q k) (rf GM k) := ⟨fun h => rf_0 h, rf_o (by decide), rf_o (by decide), rf_o (by decide), fun j _ => by rw [rf_o (by decide)], fun j _ => by rw [rf_o (by decide)]⟩
theorem Sd.fr {q GM GM' : St} {o : Nat} (ho : 51 ≤ o) (h : Fr o GM GM') : Sd q GM q GM' := ⟨fun e => by rw [h.2.1 0 (by decide) (by decide)]; exact e, rfl, h.2.1 8 (by decide) (by decide), h.2.1 15 (by decide) (by decide), fun k hk => h.2.2 k (by omega) (by omega), fun j hj => h.1 j (Or.inl (by omega))⟩
theorem m_rise {c : G2} {Gn GM t k g w z q : St} (hI : Iv c) : ∃ r, f_X4_rise (hs c Gn) t k g w z q = some r ∧ f_X5_rise (hs c GM) = some r := by
  refine ⟨nI (rcA c), ?_, ?_⟩
  · unfold f_X4_rise
    rw [X0_countRisable hI]
    rfl
  · unfold f_X5_rise
    rw [X5_canRiseOnes hI]
    rfl
theorem X0_hasShip_n {c : G2} {G : St} {p : Int32} (h : p < 0) : f_X0_hasShip (hs c G) p = some (nI 0) := by
  unfold f_X0_hasShip
  rw [if_pos h]
  exact fz0
theorem X0_hasMan_n {c : G2} {G : St} {p : Int32} (h : p < 0) : f_X0_hasMan (hs c G) p = some (nI 0) := by
  unfold f_X0_hasMan
  rw [if_pos h]
  exact fz0
theorem X5_isShip_n {c : G2} {G : St} {p : Int32} (h : p < 0) : f_X5_isShip (hs c G) p = some (nI 0) := by
  unfold f_X5_isShip
  rw [if_pos h]
  exact fz0
theorem X5_isMan_n {c : G2} {G : St} {p : Int32} (h : p < 0) : f_X5_isMan (hs c G) p = some (nI 0) := by
  unfold f_X5_isMan
  rw [if_pos h]
  exact fz0
/-- a ship's number, or none -/
theorem ship_or {c : G2} (hI : Iv c) (p : Int32) : (∃ s, s < c 16 0 ∧ p = nI s) ∨ ∀ G : St, f_X0_hasShip (hs c G) p = some (nI 0) ∧ f_X5_isShip (hs c G) p = some (nI 0) := by
  by_cases h : p < 0
  · exact Or.inr fun G => ⟨X0_hasShip_n h, X5_isShip_n h⟩
  · obtain ⟨s, h1, rfl⟩ := nI_of h
    by_cases h2 : s < c 16 0
    · exact Or.inl ⟨s, h2, rfl⟩
    · refine Or.inr fun G => ⟨?_, ?_⟩
      · rw [X0_hasShip hI (by omega), if_neg h2]
      · rw [X5_isShip hI (by omega), if_neg h2]
theorem man_or {c : G2} (hI : Iv c) (p : Int32) : (∃ m, m < c 16 1 ∧ p = nI m) ∨ ∀ G : St, f_X0_hasMan (hs c G) p = some (nI 0) ∧ f_X5_isMan (hs c G) p = some (nI 0) := by
  by_cases h : p < 0
  · exact Or.inr fun G => ⟨X0_hasMan_n h, X5_isMan_n h⟩
  · obtain ⟨s, h1, rfl⟩ := nI_of h
    by_cases h2 : s < c 16 1
    · exact Or.inl ⟨s, h2, rfl⟩
    · refine Or.inr fun G => ⟨?_, ?_⟩
      · rw [X0_hasMan hI (by omega), if_neg h2]
      · rw [X5_isMan hI (by omega), if_neg h2]
