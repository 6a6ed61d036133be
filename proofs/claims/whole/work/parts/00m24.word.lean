/-! A WORD, A TIDE, A STORM: both sides -/
theorem wth_of {c d : G2} {m : Nat} (h4 : d 4 m = c 4 m) (h5 : d 5 m = c 5 m) (ht : d 16 3 = c 16 3) : wth d m = wth c m := by
  unfold wth wtT asM asH
  rw [h4, h5, ht]
theorem crd_of {c d : G2} {m : Nat} (h4 : d 4 m = c 4 m) (h5 : d 5 m = c 5 m) (ht : d 16 3 = c 16 3) : crd d m = crd c m := by
  unfold crd
  rw [h4, wth_of h4 h5 ht]
theorem nI0' : (0 : Int32) = nI 0 := rfl
def ls1 (c : G2) (m : Nat) : G2 := gu (gu c 6 m (c 6 m - 1)) 16 2 (min 999 (c 16 2 + 1))
theorem ls1_o {c : G2} {m i k : Nat} (h6 : i ≠ 6) (h2 : ¬ (i = 16 ∧ k = 2)) : ls1 c m i k = c i k := by
  unfold ls1 gu
  simp [h2, h6]
theorem Iv_ls1 {c : G2} {m : Nat} (hI : Iv c) : Iv (ls1 c m) := by
  have := hI.1 6 m
  exact Iv_gu16 (Iv_gu hI (by decide) (by decide) (by decide) (by omega)) (by decide) (by decide) (by omega)
theorem crd_le {c : G2} {m : Nat} (hI : Iv c) : crd c m ≤ 20003 := by
  have := wth_le (m := m) hI
  unfold crd
  split
  · omega
  · split <;> omega
def lsJ (c : G2) (m j : Nat) : G2 := swp (ls1 c m) 2 (fun s => c 3 s = 0) (fun s => min 99 (c 2 s + if s = c 7 m then wth c m else crd c m)) j
theorem lsn_e {c : G2} {m : Nat} : lsn c m = lsJ c m (c 16 0) := rfl
theorem Iv_lsJ {c : G2} {m j : Nat} (hI : Iv c) : Iv (lsJ c m j) := Iv_swp (Iv_ls1 hI) (by decide) (by decide) (by decide) (fun k => by omega)
theorem lsJ_o {c : G2} {m i j k : Nat} (h2 : i ≠ 2) (h6 : i ≠ 6) (h16 : ¬ (i = 16 ∧ k = 2)) : lsJ c m j i k = c i k := by
  unfold lsJ
  rw [swp_o h2, ls1_o h6 h16]
theorem lsJ_2 {c : G2} {m j k : Nat} (h : j ≤ k) : lsJ c m j 2 k = c 2 k := by
  unfold lsJ
  rw [swp_k h, ls1_o (by decide) (by omega)]
theorem X0_word {c : G2} {G : St} {m : Nat} (hI : Iv c) (hm : m < c 16 1) (hs0 : 0 < c 6 m) (ho : c 3 (c 7 m) = 0) : f_X0_word (hs c G) (nI m) = some (nI (tcn c m), hs (tel c m) G) := by
  have hN := hI.2.2.1
  have hS := hI.2.1
  have ha := hI.2.2.2.2 m hm
  have e1 := X0_canTell (G := G) hI (show m < 2147483648 by omega)
  have e2 := X0_worth (G := G) hI (show m < 8 by omega)
  have e3 := X0_carried (G := G) hI (show m < 8 by omega)
  have b1 := hI.1 6 m
  have b2 := hI.1 16 2
  have bw := wth_le (m := m) hI
  have bc := crd_le (m := m) hI
  rw [if_pos ⟨hm, hs0, ho⟩] at e1
  unfold f_X0_word
  have g1 : gu c 6 m (c 6 m - 1) 16 2 = c 16 2 := gu_a (by decide)
  simp (disch := omega) only [gi_nI, tn_nI, hs_1, hs_2, hs_3, hs_4, hs_5, hs_6, hs_7, hs_s, hs_m, hs_h, hs_t, lit_nI, nI_add, nI_mul, nI_eq, nI_leI, nI_ltI, nm_i, bd_s, e1, e2, e3, nI_sub, su_hs, g1, mnN, su_hs16, ↓reduceIte]
  simp only [Nat.one_ne_zero, ↓reduceIte]
  refine lp_d (S := fun j => (nI j, hs (lsJ c m j) G)) (c 16 0) (by unfold lsJ; rw [swp_0]; rfl) (fun j hj nx => ?_) (fun nx => ?_) (by omega)
  · have hJ : Iv (lsJ c m j) := Iv_lsJ hI
    have h1 : ¬ c 16 0 ≤ j := by omega
    have o0 : lsJ c m j 16 0 = c 16 0 := lsJ_o (by decide) (by decide) (by omega)
    have o7 : lsJ c m j 7 m = c 7 m := lsJ_o (by decide) (by decide) (by omega)
    have o3 : lsJ c m j 3 j = c 3 j := lsJ_o (by decide) (by decide) (by omega)
    have o2 : lsJ c m j 2 j = c 2 j := lsJ_2 (Nat.le_refl j)
    have l1 := X0_loosen (G := G) (b := wth c m) hJ (show j < 5 by omega) (by omega)
    have l2 := X0_loosen (G := G) (b := crd c m) hJ (show j < 5 by omega) (by omega)
    rw [o3, o2] at l1 l2
    simp (disch := omega) only [gi_nI, tn_nI, hs_1, hs_2, hs_3, hs_4, hs_5, hs_6, hs_7, hs_s, hs_m, hs_h, hs_t, lit_nI, nI_add, nI_mul, nI_eq, nI_leI, nI_ltI, nm_i, bd_s, o0, o7, h1, l1, l2, ↓reduceIte]
    by_cases h3 : c 3 j = 0
    · have st := swp_t (c := ls1 c m) (a := 2) (P := fun s => c 3 s = 0) (f := fun s => min 99 (c 2 s + if s = c 7 m then wth c m else crd c m)) (j := j) h3
      by_cases h7 : j = c 7 m
      · rw [if_pos h7] at st
        simp only [h7, h3, ↓reduceIte]
        rw [← h7]
        unfold lsJ
        rw [← st]
        simp [h3]
      · rw [if_neg h7] at st
        simp only [h7, h3, ↓reduceIte]
        unfold lsJ
        rw [← st]
    · have st := swp_f (c := ls1 c m) (a := 2) (P := fun s => c 3 s = 0) (f := fun s => min 99 (c 2 s + if s = c 7 m then wth c m else crd c m)) (j := j) h3
      by_cases h7 : j = c 7 m
      · simp only [h7, ↓reduceIte]
        rw [← h7]
        unfold lsJ
        rw [← st]
        simp [h3]
      · simp only [h7, h3, ↓reduceIte]
        unfold lsJ
        rw [← st]
  · have hJ : Iv (lsJ c m (c 16 0)) := Iv_lsJ hI
    have o0 : lsJ c m (c 16 0) 16 0 = c 16 0 := lsJ_o (by decide) (by decide) (by omega)
    have r := X0_riseAll (G := G) hJ
    rw [o0] at r
    simp (disch := omega) only [gi_nI, tn_nI, hs_1, hs_2, hs_3, hs_4, hs_5, hs_6, hs_7, hs_s, hs_m, hs_h, hs_t, lit_nI, nI_add, nI_mul, nI_eq, nI_leI, nI_ltI, nm_i, bd_s, o0, Nat.le_refl, r, ↓reduceIte]
    rfl
theorem X5_tellsOne {c : G2} {G : St} {m : Nat} (hI : Iv c) (hm : m < c 16 1) (hs0 : 0 < c 6 m) : f_X5_tellsOne (hs c G) (nI m) = some (nI (tcn c m), hs (tel c m) G) := by
  have hN := hI.2.2.1
  have hS := hI.2.1
  have ha := hI.2.2.2.2 m hm
  have b1 := hI.1 6 m
  have b2 := hI.1 16 2
  have bw := wth_le (m := m) hI
  have bc := crd_le (m := m) hI
  unfold f_X5_tellsOne
  have g1 : gu c 6 m (c 6 m - 1) 16 2 = c 16 2 := gu_a (by decide)
  have hh := X5_held (v := c 16 2 + 1) (b := 999) (by omega) (by omega)
  rw [nI0'] at hh
  simp (disch := omega) only [gi_nI, tn_nI, hs_1, hs_2, hs_3, hs_4, hs_5, hs_6, hs_7, hs_s, hs_m, hs_h, hs_t, lit_nI, nI_add, nI_mul, nI_eq, nI_leI, nI_ltI, nm_i, bd_s, nI_sub, su_hs, g1, hh, su_hs16, ↓reduceIte]
  refine lp_d (S := fun j => (nI j, hs (lsJ c m j) G)) (c 16 0) (by unfold lsJ; rw [swp_0]; rfl) (fun j hj nx => ?_) (fun nx => ?_) (by omega)
  · have hJ : Iv (lsJ c m j) := Iv_lsJ hI
    have h1 : ¬ c 16 0 ≤ j := by omega
    have o0 : lsJ c m j 16 0 = c 16 0 := lsJ_o (by decide) (by decide) (by decide)
    have o7 : lsJ c m j 7 m = c 7 m := lsJ_o (by decide) (by decide) (by omega)
    have o3 : lsJ c m j 3 j = c 3 j := lsJ_o (by decide) (by decide) (by omega)
    have o2 : lsJ c m j 2 j = c 2 j := lsJ_2 (Nat.le_refl j)
    have l1 := X5_worth (G := G) hJ (show m < 8 by omega)
    have l2 := X5_heardOf (G := G) hJ (show m < 8 by omega)
    rw [wth_of (c := c) (lsJ_o (by decide) (by decide) (by omega)) (lsJ_o (by decide) (by decide) (by omega)) (lsJ_o (by decide) (by decide) (by omega))] at l1
    rw [crd_of (c := c) (lsJ_o (by decide) (by decide) (by omega)) (lsJ_o (by decide) (by decide) (by omega)) (lsJ_o (by decide) (by decide) (by omega))] at l2
    have b3 := hI.1 2 j
    have b4 := hI.1 3 j
    have k1 := X5_held (v := c 2 j + wth c m) (b := 99) (by omega) (by omega)
    have k2 := X5_held (v := c 2 j + crd c m) (b := 99) (by omega) (by omega)
    rw [nI0'] at k1 k2
    simp (disch := omega) only [gi_nI, tn_nI, hs_1, hs_2, hs_3, hs_4, hs_5, hs_6, hs_7, hs_s, hs_m, hs_h, hs_t, lit_nI, nI_add, nI_mul, nI_eq, nI_leI, nI_ltI, nm_i, bd_s, o0, o7, o3, o2, h1, l1, l2, k1, k2, su_hs, ↓reduceIte]
    by_cases h3 : c 3 j = 0
    · have st := swp_t (c := ls1 c m) (a := 2) (P := fun s => c 3 s = 0) (f := fun s => min 99 (c 2 s + if s = c 7 m then wth c m else crd c m)) (j := j) h3
      by_cases h7 : j = c 7 m
      · rw [if_pos h7] at st
        simp only [h7, h3, ↓reduceIte]
        rw [← h7]
        unfold lsJ
        rw [← st]
        simp [h3]
      · rw [if_neg h7] at st
        simp only [h7, h3, ↓reduceIte]
        unfold lsJ
        rw [← st]
    · have st := swp_f (c := ls1 c m) (a := 2) (P := fun s => c 3 s = 0) (f := fun s => min 99 (c 2 s + if s = c 7 m then wth c m else crd c m)) (j := j) h3
      simp only [h3, ↓reduceIte]
      unfold lsJ
      rw [← st]
  · have hJ : Iv (lsJ c m (c 16 0)) := Iv_lsJ hI
    have o0 : lsJ c m (c 16 0) 16 0 = c 16 0 := lsJ_o (by decide) (by decide) (by decide)
    have r := X5_rises (G := G) hJ
    rw [o0] at r
    simp (disch := omega) only [gi_nI, tn_nI, hs_1, hs_2, hs_3, hs_4, hs_5, hs_6, hs_7, hs_s, hs_m, hs_h, hs_t, lit_nI, nI_add, nI_mul, nI_eq, nI_leI, nI_ltI, nm_i, bd_s, o0, Nat.le_refl, r, ↓reduceIte]
    rfl
/-! a tide -/
def td1 (c : G2) (j : Nat) : G2 := swp (gu c 16 3 (c 16 3 + 1)) 6 (fun m => c 3 (c 7 m) ≠ 0) (fun m => min 9 (c 6 m + mor c m)) j
def td2 (c : G2) (j : Nat) : G2 := swp (td1 c (c 16 1)) 3 (fun s => c 3 s ≠ 0) (fun s => c 3 s - 1) j
theorem tid_e {c : G2} : tid c = td2 c (c 16 0) := rfl
theorem Iv_td0 {c : G2} (hI : Iv c) (ht : c 16 3 < 9999) : Iv (gu c 16 3 (c 16 3 + 1)) := Iv_gu16 hI (by decide) (by decide) (by omega)
theorem Iv_td1 {c : G2} {j : Nat} (hI : Iv c) (ht : c 16 3 < 9999) : Iv (td1 c j) := Iv_swp (Iv_td0 hI ht) (by decide) (by decide) (by decide) (fun k => by omega)
theorem Iv_td2 {c : G2} {j : Nat} (hI : Iv c) (ht : c 16 3 < 9999) : Iv (td2 c j) := Iv_swp (Iv_td1 hI ht) (by decide) (by decide) (by decide) (fun k => by have := hI.1 3 k; omega)
theorem td1_o {c : G2} {i j k : Nat} (h6 : i ≠ 6) (h16 : ¬ (i = 16 ∧ k = 3)) : td1 c j i k = c i k := by
  unfold td1
  rw [swp_o h6]
  unfold gu
  rw [if_neg h16]
theorem td1_6 {c : G2} {j k : Nat} (h : j ≤ k) : td1 c j 6 k = c 6 k := by
  unfold td1
  rw [swp_k h, gu_a (by decide)]
theorem td2_o {c : G2} {i j k : Nat} (h3 : i ≠ 3) : td2 c j i k = td1 c (c 16 1) i k := by
  unfold td2
  rw [swp_o h3]
theorem td2_3 {c : G2} {j k : Nat} (h : j ≤ k) : td2 c j 3 k = c 3 k := by
  unfold td2
  rw [swp_k h, td1_o (by decide) (by omega)]
theorem mor_le {c : G2} {m : Nat} : mor c m ≤ 2 := by
  unfold mor
  split
  · omega
  · split <;> omega
theorem X0_passTide {c : G2} {G : St} (hI : Iv c) (ht : c 16 3 < 9999) : f_X0_passTide (hs c G) = some (hs (tid c) G) := by
  have hN := hI.2.2.1
  have hS := hI.2.1
  unfold f_X0_passTide
  simp (disch := omega) only [gi_nI, tn_nI, hs_1, hs_2, hs_3, hs_4, hs_5, hs_6, hs_7, hs_s, hs_m, hs_h, hs_t, lit_nI, nI_add, nI_mul, nI_eq, nI_leI, nI_ltI, nm_i, bd_s, su_hs16, ↓reduceIte]
  refine lp_d (S := fun j => (nI j, hs (td1 c j) G)) (c 16 1) (by unfold td1; rw [swp_0]) (fun j hj nx => ?_) (fun nx => ?_) (by omega)
  · have hJ : Iv (td1 c j) := Iv_td1 hI ht
    have h1 : ¬ c 16 1 ≤ j := by omega
    have o1 : td1 c j 16 1 = c 16 1 := td1_o (by decide) (by decide)
    have o7 : td1 c j 7 j = c 7 j := td1_o (by decide) (by omega)
    have o6 : td1 c j 6 j = c 6 j := td1_6 (Nat.le_refl j)
    have o4 : td1 c j 4 j = c 4 j := td1_o (by decide) (by omega)
    have o3 : td1 c j 3 (c 7 j) = c 3 (c 7 j) := td1_o (by decide) (by omega)
    have a7 := hI.2.2.2.2 j hj
    have e1 := X0_isIn (G := G) hJ (show c 7 j < 5 by omega)
    have e2 := X0_sinsMore (G := G) hJ (show j < 8 by omega)
    have e3 : mor (td1 c j) j = mor c j := by unfold mor; rw [o4]
    rw [e3] at e2
    rw [o3] at e1
    have b6 := hI.1 6 j
    have bm := mor_le (c := c) (m := j)
    simp (disch := omega) only [gi_nI, tn_nI, hs_1, hs_2, hs_3, hs_4, hs_5, hs_6, hs_7, hs_s, hs_m, hs_h, hs_t, lit_nI, nI_add, nI_mul, nI_eq, nI_leI, nI_ltI, nm_i, bd_s, o1, o7, o6, h1, e1, e2, mnN, su_hs, ↓reduceIte]
    by_cases h3 : c 3 (c 7 j) = 0
    · have st := swp_f (c := gu c 16 3 (c 16 3 + 1)) (a := 6) (P := fun m => c 3 (c 7 m) ≠ 0) (f := fun m => min 9 (c 6 m + mor c m)) (j := j) (fun z => z h3)
      simp (disch := omega) only [h3, ↓reduceIte, nI_eq]
      unfold td1
      rw [← st]
      simp
    · have st := swp_t (c := gu c 16 3 (c 16 3 + 1)) (a := 6) (P := fun m => c 3 (c 7 m) ≠ 0) (f := fun m => min 9 (c 6 m + mor c m)) (j := j) h3
      simp (disch := omega) only [h3, ↓reduceIte, nI_eq]
      unfold td1
      rw [← st]
  · have o1 : td1 c (c 16 1) 16 1 = c 16 1 := td1_o (by decide) (by decide)
    simp (disch := omega) only [gi_nI, tn_nI, hs_1, hs_2, hs_3, hs_4, hs_5, hs_6, hs_7, hs_s, hs_m, hs_h, hs_t, lit_nI, nI_add, nI_mul, nI_eq, nI_leI, nI_ltI, nm_i, bd_s, o1, Nat.le_refl, ↓reduceIte]
    refine lp_d (S := fun j => (nI j, hs (td2 c j) G)) (c 16 0) (by unfold td2; rw [swp_0]) (fun j hj nx => ?_) (fun nx => ?_) (by omega)
    · have hJ : Iv (td2 c j) := Iv_td2 hI ht
      have h1 : ¬ c 16 0 ≤ j := by omega
      have o0 : td2 c j 16 0 = c 16 0 := by rw [td2_o (by decide), td1_o (by decide) (by decide)]
      have o3 : td2 c j 3 j = c 3 j := td2_3 (Nat.le_refl j)
      have e1 := X0_isIn (G := G) hJ (show j < 5 by omega)
      rw [o3] at e1
      have b3 := hI.1 3 j
      simp (disch := omega) only [gi_nI, tn_nI, hs_1, hs_2, hs_3, hs_4, hs_5, hs_6, hs_7, hs_s, hs_m, hs_h, hs_t, lit_nI, nI_add, nI_mul, nI_eq, nI_leI, nI_ltI, nm_i, bd_s, o0, o3, h1, e1, ↓reduceIte]
      by_cases h3 : c 3 j = 0
      · have st := swp_f (c := td1 c (c 16 1)) (a := 3) (P := fun s => c 3 s ≠ 0) (f := fun s => c 3 s - 1) (j := j) (fun z => z h3)
        simp (disch := omega) only [h3, ↓reduceIte, nI_eq]
        unfold td2
        rw [← st]
        simp
      · have st := swp_t (c := td1 c (c 16 1)) (a := 3) (P := fun s => c 3 s ≠ 0) (f := fun s => c 3 s - 1) (j := j) h3
        simp (disch := omega) only [h3, ↓reduceIte, nI_eq, nI_sub, su_hs]
        unfold td2
        rw [← st]
    · have o0 : td2 c (c 16 0) 16 0 = c 16 0 := by rw [td2_o (by decide), td1_o (by decide) (by decide)]
      simp (disch := omega) only [gi_nI, tn_nI, hs_1, hs_2, hs_3, hs_4, hs_5, hs_6, hs_7, hs_s, hs_m, hs_h, hs_t, lit_nI, nI_add, nI_mul, nI_eq, nI_leI, nI_ltI, nm_i, bd_s, o0, Nat.le_refl, ↓reduceIte]
      rfl
