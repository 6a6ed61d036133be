/-! A WORD, A TIDE, A STORM: both sides -/
theorem wth_of {c d : G2} {m : Nat} (h4 : d 4 m = c 4 m) (h5 : d 5 m = c 5 m) (ht : d 16 3 = c 16 3) : wth d m = wth c m := by
  unfold wth wtT asM asH
  rw [h4, h5, ht]
theorem crd_of {c d : G2} {m : Nat} (h4 : d 4 m = c 4 m) (h5 : d 5 m = c 5 m) (ht : d 16 3 = c 16 3) : crd d m = crd c m := by
  unfold crd
  rw [h4, wth_of h4 h5 ht]
def ls1 (c : G2) (m : Nat) : G2 := gu (gu c 6 m (c 6 m - 1)) 16 2 (min 999 (c 16 2 + 1))
theorem ls1_o {c : G2} {m i k : Nat} (h6 : i ≠ 6) (h2 : ¬ (i = 16 ∧ k = 2)) : ls1 c m i k = c i k := by
  unfold ls1 gu
  simp [h2, h6]
theorem Iv_ls1 {c : G2} {m : Nat} (hI : Iv c) : Iv (ls1 c m) := by
  have := hI.1 6 m
  exact Iv_gu16 (Iv_gu hI (by decide) (by decide) (by decide) (by omega)) (by decide) (by decide) (by omega)
theorem crd_le {c : G2} {m : Nat} (hI : Iv c) : crd c m ≤ 20003 := by
  have := wth_le (m := m) hI
  unfold crd
  split
  · omega
  · split <;> omega
def lsJ (c : G2) (m j : Nat) : G2 := swp (ls1 c m) 2 (fun s => c 3 s = 0) (fun s => min 99 (c 2 s + if s = c 7 m then wth c m else crd c m)) j
theorem lsn_e {c : G2} {m : Nat} : lsn c m = lsJ c m (c 16 0) := rfl
theorem Iv_lsJ {c : G2} {m j : Nat} (hI : Iv c) : Iv (lsJ c m j) := Iv_swp (Iv_ls1 hI) (by decide) (by decide) (by decide) (fun k => by omega)
theorem lsJ_o {c : G2} {m i j k : Nat} (h2 : i ≠ 2) (h6 : i ≠ 6) (h16 : ¬ (i = 16 ∧ k = 2)) : lsJ c m j i k = c i k := by
  unfold lsJ
  rw [swp_o h2, ls1_o h6 h16]
theorem lsJ_2 {c : G2} {m j k : Nat} (h : j ≤ k) : lsJ c m j 2 k = c 2 k := by
  unfold lsJ
  rw [swp_k h, ls1_o (by decide) (by omega)]
theorem X0_word {c : G2} {G : St} {m : Nat} (hI : Iv c) (hm : m < c 16 1) (hs0 : 0 < c 6 m) (ho : c 3 (c 7 m) = 0) : f_X0_word (hs c G) (nI m) = some (nI (tcn c m), hs (tel c m) G) := by
  have hN := hI.2.2.1
  have hS := hI.2.1
  have ha := hI.2.2.2.2 m hm
  have e1 := X0_canTell (G := G) hI (show m < 2147483648 by omega)
  have e2 := X0_worth (G := G) hI (show m < 8 by omega)
  have e3 := X0_carried (G := G) hI (show m < 8 by omega)
  have b1 := hI.1 6 m
  have b2 := hI.1 16 2
  have bw := wth_le (m := m) hI
  have bc := crd_le (m := m) hI
  rw [if_pos ⟨hm, hs0, ho⟩] at e1
  unfold f_X0_word
  have g1 : gu c 6 m (c 6 m - 1) 16 2 = c 16 2 := gu_a (by decide)
  simp (disch := omega) only [gi_nI, tn_nI, hs_1, hs_2, hs_3, hs_4, hs_5, hs_6, hs_7, hs_s, hs_m, hs_h, hs_t, lit_nI, nI_add, nI_mul, nI_eq, nI_leI, nI_ltI, nm_i, bd_s, e1, e2, e3, nI_sub, su_hs, g1, mnN, su_hs16, ↓reduceIte]
  simp only [Nat.one_ne_zero, ↓reduceIte]
  refine lp_d (S := fun j => (nI j, hs (lsJ c m j) G)) (c 16 0) (by unfold lsJ; rw [swp_0]; rfl) (fun j hj nx => ?_) (fun nx => ?_) (by omega)
  · have hJ : Iv (lsJ c m j) := Iv_lsJ hI
    have h1 : ¬ c 16 0 ≤ j := by omega
    have o0 : lsJ c m j 16 0 = c 16 0 := lsJ_o (by decide) (by decide) (by decide)
    have o7 : lsJ c m j 7 m = c 7 m := lsJ_o (by decide) (by decide) (by decide)
    have o3 : lsJ c m j 3 j = c 3 j := lsJ_o (by decide) (by decide) (by decide)
    have o2 : lsJ c m j 2 j = c 2 j := lsJ_2 (Nat.le_refl j)
    have l1 := X0_loosen (G := G) (b := wth c m) hJ (show j < 5 by omega) (by omega)
    have l2 := X0_loosen (G := G) (b := crd c m) hJ (show j < 5 by omega) (by omega)
    rw [o3, o2] at l1 l2
    simp (disch := omega) only [gi_nI, tn_nI, hs_1, hs_2, hs_3, hs_4, hs_5, hs_6, hs_7, hs_s, hs_m, hs_h, hs_t, lit_nI, nI_add, nI_mul, nI_eq, nI_leI, nI_ltI, nm_i, bd_s, o0, o7, h1, l1, l2, ↓reduceIte]
    by_cases h3 : c 3 j = 0
    · have st := swp_t (c := ls1 c m) (a := 2) (P := fun s => c 3 s = 0) (f := fun s => min 99 (c 2 s + if s = c 7 m then wth c m else crd c m)) (j := j) h3
      by_cases h7 : j = c 7 m
      · rw [if_pos h7] at st
        simp only [h7, h3, ↓reduceIte]
        rw [← h7]
        unfold lsJ
        rw [← st]
        simp [h3]
      · rw [if_neg h7] at st
        simp only [h7, h3, ↓reduceIte]
        unfold lsJ
        rw [← st]
    · have st := swp_f (c := ls1 c m) (a := 2) (P := fun s => c 3 s = 0) (f := fun s => min 99 (c 2 s + if s = c 7 m then wth c m else crd c m)) (j := j) h3
      by_cases h7 : j = c 7 m
      · simp only [h7, ↓reduceIte]
        rw [← h7]
        unfold lsJ
        rw [← st]
        simp [h3]
      · simp only [h7, h3, ↓reduceIte]
        unfold lsJ
        rw [← st]
  · have hJ : Iv (lsJ c m (c 16 0)) := Iv_lsJ hI
    have o0 : lsJ c m (c 16 0) 16 0 = c 16 0 := lsJ_o (by decide) (by decide) (by decide)
    have r := X0_riseAll (G := G) hJ
    rw [o0] at r
    simp (disch := omega) only [gi_nI, tn_nI, hs_1, hs_2, hs_3, hs_4, hs_5, hs_6, hs_7, hs_s, hs_m, hs_h, hs_t, lit_nI, nI_add, nI_mul, nI_eq, nI_leI, nI_ltI, nm_i, bd_s, o0, Nat.le_refl, r, ↓reduceIte]
    rfl
