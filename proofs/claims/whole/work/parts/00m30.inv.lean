/-! THINKING, and what stays -/
theorem X5_thinks {c : G2} {G : St} : ∃ G', f_X5_thinks (hs c G) = some (hs c G') ∧ Kp G' 102 51 c ∧ Fr 102 G G' := by
  obtain ⟨G', h1, h2, h3⟩ := keepAll (c := c) (G := G) (b := 2) (by omega)
  refine ⟨G', ?_, h2, h3⟩
  unfold f_X5_thinks
  simp (disch := omega) only [gi_nI, tn_nI, hs_1, hs_2, hs_3, hs_4, hs_5, hs_6, hs_7, hs_s, hs_m, hs_h, hs_t, lit_nI, nI_add, nI_mul, nI_eq, nI_leI, nI_ltI, nm_i, bd_s, h1, ↓reduceIte]
theorem X5_forgets {c d : G2} {G : St} (hc : Zc c) (hd : Zc d) (hK : Kp G 102 51 c) : ∃ G', f_X5_forgets (hs d G) = some (hs c G') ∧ Fr 102 G G' ∧ G' 12 = G 12 := by
  obtain ⟨G', h1, h2, h3⟩ := putAll (c := c) (d := d) (G := G) (b := 2) (by omega) hc hd hK
  refine ⟨G', ?_, h2, h3⟩
  unfold f_X5_forgets
  simp (disch := omega) only [gi_nI, tn_nI, hs_1, hs_2, hs_3, hs_4, hs_5, hs_6, hs_7, hs_s, hs_m, hs_h, hs_t, lit_nI, nI_add, nI_mul, nI_eq, nI_leI, nI_ltI, nm_i, bd_s, h1, ↓reduceIte]
theorem Zc_gu {c : G2} {a k v : Nat} (h : Zc c) (hv : vd a k) : Zc (gu c a k v) := by
  intro i j hn
  rw [← h i j hn]
  unfold gu
  rw [if_neg]
  rintro ⟨rfl, rfl⟩
  exact hn hv
theorem Zc_swp {c : G2} {a j : Nat} {P : Nat → Prop} [DecidablePred P] {f : Nat → Nat} (h : Zc c) (hv : ∀ k, k < j → vd a k) : Zc (swp c a P f j) := by
  intro i k hn
  rw [← h i k hn]
  unfold swp
  rw [if_neg]
  rintro ⟨rfl, h2, -⟩
  exact hn (hv k h2)
theorem Zc_rsJ {c : G2} {j : Nat} (h : Zc c) (hj : j ≤ 5) : Zc (rsJ c j) := by
  intro i k hn
  rw [← h i k hn]
  unfold rsJ
  rw [if_neg]
  rintro ⟨h1, h2, -⟩
  apply hn
  unfold vd
  left
  rcases h1 with rfl | rfl
  · exact ⟨by omega, by omega, by omega⟩
  · exact ⟨by omega, by omega, by omega⟩
theorem vd3 {a k : Nat} (h1 : 1 ≤ a) (h2 : a ≤ 3) (h : k < 5) : vd a k := Or.inl ⟨h1, h2, h⟩
theorem vd7 {a k : Nat} (h1 : 4 ≤ a) (h2 : a ≤ 7) (h : k < 8) : vd a k := Or.inr (Or.inl ⟨h1, h2, h⟩)
theorem vd16 {k : Nat} (h : k < 4) : vd 16 k := Or.inr (Or.inr ⟨rfl, h⟩)
theorem Zc_tel {c : G2} {m : Nat} (hI : Iv c) (h : Zc c) (hm : m < 8) : Zc (tel c m) := by
  have hS := hI.2.1
  exact Zc_rsJ (Zc_swp (Zc_gu (Zc_gu h (vd7 (by decide) (by decide) hm)) (vd16 (by decide))) (fun k hk => vd3 (by decide) (by decide) (by omega))) hS
theorem Zc_tid {c : G2} (hI : Iv c) (h : Zc c) : Zc (tid c) := by
  have hS := hI.2.1
  have hN := hI.2.2.1
  exact Zc_swp (Zc_swp (Zc_gu h (vd16 (by decide))) (fun k hk => vd7 (by decide) (by decide) (by omega))) (fun k hk => vd3 (by decide) (by decide) (by omega))
theorem Zc_stm {c : G2} (hI : Iv c) (h : Zc c) : Zc (stm c) := by
  have hS := hI.2.1
  exact Zc_rsJ (Zc_swp h (fun k hk => vd3 (by decide) (by decide) (by omega))) hS
theorem Zc_tds {c : G2} (hI : Iv c) (h : Zc c) : ∀ n, c 16 3 + n ≤ 9999 → Zc (tds c n)
  | 0, _ => h
  | n + 1, hn => Zc_tid (Iv_tds hI n (by omega)) (Zc_tds hI h n (by omega))
theorem Iv_tel {c : G2} {m : Nat} (hI : Iv c) : Iv (tel c m) := Iv_rsJ (by rw [lsn_e]; exact Iv_lsJ hI)
theorem Iv_stm {c : G2} (hI : Iv c) : Iv (stm c) := Iv_rsJ (Iv_st1 hI)
/-- a ship that is out is not loose -/
def Ol (c : G2) : Prop := ∀ s, c 3 s ≠ 0 → c 2 s = 0
theorem Ol_rsJ {c : G2} {j : Nat} (h : Ol c) : Ol (rsJ c j) := by
  intro s hs0
  unfold rsJ at hs0 ⊢
  by_cases h1 : s < j ∧ c 3 s = 0 ∧ hld c s ≤ c 2 s
  · simp [h1]
  · simp only [h1, and_false, ↓reduceIte] at hs0 ⊢
    exact h s hs0
theorem Ol_tel {c : G2} {m : Nat} (h : Ol c) : Ol (tel c m) := by
  apply Ol_rsJ
  intro s hs0
  rw [lsn_e] at hs0 ⊢
  rw [lsJ_o (by decide) (by decide) (by omega)] at hs0
  unfold lsJ swp
  rw [if_neg (fun z => hs0 z.2.2), ls1_o (by decide) (by omega)]
  exact h s hs0
theorem Ol_stm {c : G2} (h : Ol c) : Ol (stm c) := by
  apply Ol_rsJ
  intro s hs0
  rw [show swp c 2 (fun s => c 3 s = 0) (fun s => min 99 (c 2 s + 2)) (c 16 0) = st1 c (c 16 0) from rfl] at hs0 ⊢
  rw [st1_o (by decide)] at hs0
  unfold st1 swp
  rw [if_neg (fun z => hs0 z.2.2)]
  exact h s hs0
theorem Ol_tid {c : G2} (h : Ol c) : Ol (tid c) := by
  intro s hs0
  rw [tid_e] at hs0 ⊢
  rw [td2_o (by decide), td1_o (by decide) (by omega)]
  apply h
  intro e
  apply hs0
  unfold td2 swp
  rw [if_neg (fun z => z.2.2 e), td1_o (by decide) (by omega)]
  exact e
