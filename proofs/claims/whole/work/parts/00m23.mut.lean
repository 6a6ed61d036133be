/-! WORDS, TIDES, STORMS on the numbers -/
/-- the array a swept from 0 to j: where P holds the place k becomes f k -/
def swp (c : G2) (a : Nat) (P : Nat → Prop) [DecidablePred P] (f : Nat → Nat) (j : Nat) : G2 := fun i k => if i = a ∧ k < j ∧ P k then f k else c i k
theorem swp_0 {c : G2} {a : Nat} {P : Nat → Prop} [DecidablePred P] {f : Nat → Nat} : swp c a P f 0 = c := by funext i k; simp [swp]
theorem swp_t {c : G2} {a : Nat} {P : Nat → Prop} [DecidablePred P] {f : Nat → Nat} {j : Nat} (h : P j) : gu (swp c a P f j) a j (f j) = swp c a P f (j + 1) := by
  funext i k
  unfold gu swp
  by_cases h2 : i = a
  · subst h2
    by_cases h1 : k = j
    · subst h1; simp [h]
    · have e3 : (k < j + 1) = (k < j) := by apply propext; omega
      simp [h1, e3]
  · simp [h2]
theorem swp_f {c : G2} {a : Nat} {P : Nat → Prop} [DecidablePred P] {f : Nat → Nat} {j : Nat} (h : ¬ P j) : swp c a P f j = swp c a P f (j + 1) := by
  funext i k
  unfold swp
  by_cases h1 : k = j
  · subst h1; simp [h]
  · have e3 : (k < j + 1) = (k < j) := by apply propext; omega
    simp [e3]
theorem swp_o {c : G2} {a : Nat} {P : Nat → Prop} [DecidablePred P] {f : Nat → Nat} {i j k : Nat} (h : i ≠ a) : swp c a P f j i k = c i k := by simp [swp, h]
theorem swp_k {c : G2} {a : Nat} {P : Nat → Prop} [DecidablePred P] {f : Nat → Nat} {i j k : Nat} (h : j ≤ k) : swp c a P f j i k = c i k := by
  have : ¬ k < j := by omega
  simp [swp, this]
theorem gu_same {c : G2} {a k : Nat} : gu c a k (c a k) = c := by
  funext i j
  unfold gu
  by_cases h : i = a ∧ j = k
  · rw [if_pos h, h.1, h.2]
  · rw [if_neg h]
/-- the ship s would rise -/
def up (c : G2) (s : Nat) : Prop := c 3 s = 0 ∧ hld c s ≤ c 2 s
/-- the ships below j that would rise have risen -/
def rsJ (c : G2) (j : Nat) : G2 := fun i k => if (i = 3 ∨ i = 2) ∧ k < j ∧ c 3 k = 0 ∧ hld c k ≤ c 2 k then (if i = 3 then 3 else 0) else c i k
def rcJ (c : G2) : Nat → Nat
  | 0 => 0
  | j + 1 => rcJ c j + if c 3 j = 0 ∧ hld c j ≤ c 2 j then 1 else 0
theorem rsJ_0 {c : G2} : rsJ c 0 = c := by funext i k; simp [rsJ]
theorem rsJ_t {c : G2} {j : Nat} (h : c 3 j = 0 ∧ hld c j ≤ c 2 j) : gu (gu (rsJ c j) 3 j 3) 2 j 0 = rsJ c (j + 1) := by
  funext i k
  unfold gu rsJ
  by_cases h1 : k = j
  · subst h1
    by_cases h2 : i = 2
    · subst h2; simp [h]
    · by_cases h3 : i = 3
      · subst h3; simp [h]
      · simp [h2, h3]
  · have e3 : (k < j + 1) = (k < j) := by apply propext; omega
    simp [h1, e3]
theorem rsJ_f {c : G2} {j : Nat} (h : ¬ (c 3 j = 0 ∧ hld c j ≤ c 2 j)) : rsJ c j = rsJ c (j + 1) := by
  funext i k
  unfold rsJ
  by_cases h1 : k = j
  · subst h1; simp [h]
  · have e3 : (k < j + 1) = (k < j) := by apply propext; omega
    simp [e3]
theorem rsJ_o {c : G2} {i j k : Nat} (h3 : i ≠ 3) (h2 : i ≠ 2) : rsJ c j i k = c i k := by simp [rsJ, h3, h2]
theorem rsJ_k {c : G2} {i j k : Nat} (h : j ≤ k) : rsJ c j i k = c i k := by
  have : ¬ k < j := by omega
  simp [rsJ, this]
def lsn (c : G2) (m : Nat) : G2 := swp (gu (gu c 6 m (c 6 m - 1)) 16 2 (min 999 (c 16 2 + 1))) 2 (fun s => c 3 s = 0) (fun s => min 99 (c 2 s + if s = c 7 m then wth c m else crd c m)) (c 16 0)
def tel (c : G2) (m : Nat) : G2 := rsJ (lsn c m) (c 16 0)
def tcn (c : G2) (m : Nat) : Nat := rcJ (lsn c m) (c 16 0)
def tid (c : G2) : G2 := swp (swp (gu c 16 3 (c 16 3 + 1)) 6 (fun m => c 3 (c 7 m) ≠ 0) (fun m => min 9 (c 6 m + mor c m)) (c 16 1)) 3 (fun s => c 3 s ≠ 0) (fun s => c 3 s - 1) (c 16 0)
def tds (c : G2) : Nat → G2
  | 0 => c
  | n + 1 => tid (tds c n)
def stm (c : G2) : G2 := rsJ (swp c 2 (fun s => c 3 s = 0) (fun s => min 99 (c 2 s + 2)) (c 16 0)) (c 16 0)

theorem lp_d {σ ρ : Type} {f : (σ → Option ρ) → σ → Option ρ} {s0 : σ} (S : Nat → σ) (N : Nat) {out : Option ρ} (h0 : s0 = S 0) (hs : ∀ j, j < N → ∀ nx, f nx (S j) = nx (S (j + 1))) (he : ∀ nx, f nx (S N) = out) {n : Nat} (hn : N < n) : lp f n s0 = out := by
  rw [h0]
  exact lp_c S N hs he hn
theorem Iv_gu {c : G2} {a k v : Nat} (hI : Iv c) (h4 : a ≠ 4) (h7 : a ≠ 7) (h16 : a ≠ 16) (hv : v ≤ 9999) : Iv (gu c a k v) := by
  obtain ⟨b1, b2, b3, b4, b5⟩ := hI
  refine ⟨fun i j => ?_, ?_, ?_, fun m => ?_, fun m hm => ?_⟩
  · unfold gu; split
    · exact hv
    · exact b1 i j
  · rw [gu_a (Ne.symm h16)]; exact b2
  · rw [gu_a (Ne.symm h16)]; exact b3
  · rw [gu_a (Ne.symm h4)]; exact b4 m
  · rw [gu_a (Ne.symm h16)] at hm
    rw [gu_a (Ne.symm h7), gu_a (Ne.symm h16)]; exact b5 m hm
theorem Iv_gu16 {c : G2} {k v : Nat} (hI : Iv c) (h0 : k ≠ 0) (h1 : k ≠ 1) (hv : v ≤ 9999) : Iv (gu c 16 k v) := by
  obtain ⟨b1, b2, b3, b4, b5⟩ := hI
  refine ⟨fun i j => ?_, ?_, ?_, fun m => ?_, fun m hm => ?_⟩
  · unfold gu; split
    · exact hv
    · exact b1 i j
  · rw [gu_k (Ne.symm h0)]; exact b2
  · rw [gu_k (Ne.symm h1)]; exact b3
  · rw [gu_a (by decide)]; exact b4 m
  · rw [gu_k (Ne.symm h1)] at hm
    rw [gu_a (by decide), gu_k (Ne.symm h0)]; exact b5 m hm
theorem Iv_swp {c : G2} {a : Nat} {P : Nat → Prop} [DecidablePred P] {f : Nat → Nat} {j : Nat} (hI : Iv c) (h4 : a ≠ 4) (h7 : a ≠ 7) (h16 : a ≠ 16) (hv : ∀ k, f k ≤ 9999) : Iv (swp c a P f j) := by
  obtain ⟨b1, b2, b3, b4, b5⟩ := hI
  refine ⟨fun i j => ?_, ?_, ?_, fun m => ?_, fun m hm => ?_⟩
  · unfold swp; split
    · exact hv _
    · exact b1 i j
  · rw [swp_o (Ne.symm h16)]; exact b2
  · rw [swp_o (Ne.symm h16)]; exact b3
  · rw [swp_o (Ne.symm h4)]; exact b4 m
  · rw [swp_o (Ne.symm h16)] at hm
    rw [swp_o (Ne.symm h7), swp_o (Ne.symm h16)]; exact b5 m hm
theorem Iv_rsJ {c : G2} {j : Nat} (hI : Iv c) : Iv (rsJ c j) := by
  obtain ⟨b1, b2, b3, b4, b5⟩ := hI
  refine ⟨fun i j => ?_, ?_, ?_, fun m => ?_, fun m hm => ?_⟩
  · unfold rsJ; split
    · split <;> omega
    · exact b1 i j
  · rw [rsJ_o (by decide) (by decide)]; exact b2
  · rw [rsJ_o (by decide) (by decide)]; exact b3
  · rw [rsJ_o (by decide) (by decide)]; exact b4 m
  · rw [rsJ_o (by decide) (by decide)] at hm
    rw [rsJ_o (by decide) (by decide), rsJ_o (by decide) (by decide)]; exact b5 m hm
theorem hld_rsJ {c : G2} {j s : Nat} : hld (rsJ c j) s = hld c s := by
  unfold hld
  rw [rsJ_o (by decide) (by decide), rsJ_o (by decide) (by decide), rsJ_o (by decide) (by decide)]
theorem mnI {a b : Nat} (ha : a < 2147483648) (hb : b < 2147483648) : (if nI a < nI b then nI a else nI b) = nI (min b a) := by
  simp only [nI_ltI ha hb]
  split
  · rw [Nat.min_eq_right (by omega)]
  · rw [Nat.min_eq_left (by omega)]
theorem mnN {a b : Nat} : (if a < b then nI a else nI b) = nI (min b a) := by
  split
  · rw [Nat.min_eq_right (by omega)]
  · rw [Nat.min_eq_left (by omega)]
theorem rcJ_t {c : G2} {j : Nat} (h : c 3 j = 0 ∧ hld c j ≤ c 2 j) : rcJ c (j + 1) = rcJ c j + 1 := by simp only [rcJ]; rw [if_pos h]
theorem rcJ_f {c : G2} {j : Nat} (h : ¬ (c 3 j = 0 ∧ hld c j ≤ c 2 j)) : rcJ c (j + 1) = rcJ c j := by simp only [rcJ]; rw [if_neg h]; rfl
/-! the class's -/
theorem X0_riseAll {c : G2} {G : St} (hI : Iv c) : f_X0_riseAll (hs c G) = some (nI (rcJ c (c 16 0)), hs (rsJ c (c 16 0)) G) := by
  have hS := hI.2.1
  unfold f_X0_riseAll
  refine lp_d (S := fun j => (nI (rcJ c j), nI j, hs (rsJ c j) G)) (c 16 0) (by rw [rsJ_0]; rfl) (fun j hj nx => ?_) (fun nx => ?_) (by omega)
  · have hJ : Iv (rsJ c j) := Iv_rsJ hI
    have h1 : ¬ c 16 0 ≤ j := by omega
    have e1 := X0_isIn (G := G) hJ (show j < 5 by omega)
    have e2 := X0_holds (G := G) hJ (show j < 5 by omega)
    have b1 := hld_le (s := j) hI
    have b2 := hI.1 2 j
    have b3 := hI.1 3 j
    rw [hld_rsJ] at e2
    rw [rsJ_k (Nat.le_refl j)] at e1
    have o0 : rsJ c j 16 0 = c 16 0 := rsJ_o (by decide) (by decide)
    have o2 : rsJ c j 2 j = c 2 j := rsJ_k (Nat.le_refl j)
    simp (disch := omega) only [gi_nI, tn_nI, hs_1, hs_2, hs_3, hs_4, hs_5, hs_6, hs_7, hs_s, hs_m, hs_h, hs_t, lit_nI, nI_add, nI_mul, nI_eq, nI_leI, nI_ltI, nm_i, bd_s, o0, o2, h1, e1, e2, su_hs, ↓reduceIte]
    by_cases h3 : c 3 j = 0
    · by_cases h4 : c 2 j < hld c j
      · have hn : ¬ (c 3 j = 0 ∧ hld c j ≤ c 2 j) := fun z => absurd z.2 (by omega)
        rw [rcJ_f hn, ← rsJ_f hn]
        simp (disch := omega) only [h3, h4, ↓reduceIte, nI_eq]
        simp
      · have hy : c 3 j = 0 ∧ hld c j ≤ c 2 j := ⟨h3, by omega⟩
        rw [rcJ_t hy, ← rsJ_t hy]
        simp (disch := omega) only [h3, h4, ↓reduceIte, nI_eq]
        simp
    · have hn : ¬ (c 3 j = 0 ∧ hld c j ≤ c 2 j) := fun z => h3 z.1
      rw [rcJ_f hn, ← rsJ_f hn]
      simp (disch := omega) only [h3, ↓reduceIte, nI_eq]
  · have o0 : rsJ c (c 16 0) 16 0 = c 16 0 := rsJ_o (by decide) (by decide)
    simp (disch := omega) only [gi_nI, tn_nI, hs_1, hs_2, hs_3, hs_4, hs_5, hs_6, hs_7, hs_s, hs_m, hs_h, hs_t, lit_nI, nI_add, nI_mul, nI_eq, nI_leI, nI_ltI, nm_i, bd_s, o0, Nat.le_refl, ↓reduceIte]
theorem X5_rises {c : G2} {G : St} (hI : Iv c) : f_X5_rises (hs c G) = some (nI (rcJ c (c 16 0)), hs (rsJ c (c 16 0)) G) := by
  have hS := hI.2.1
  unfold f_X5_rises
  refine lp_d (S := fun j => (nI (rcJ c j), nI j, hs (rsJ c j) G)) (c 16 0) (by rw [rsJ_0]; rfl) (fun j hj nx => ?_) (fun nx => ?_) (by omega)
  · have hJ : Iv (rsJ c j) := Iv_rsJ hI
    have h1 : ¬ c 16 0 ≤ j := by omega
    have e2 := X5_holds (G := G) hJ (show j < 5 by omega)
    have b1 := hld_le (s := j) hI
    have b2 := hI.1 2 j
    have b3 := hI.1 3 j
    rw [hld_rsJ] at e2
    have o0 : rsJ c j 16 0 = c 16 0 := rsJ_o (by decide) (by decide)
    have o2 : rsJ c j 2 j = c 2 j := rsJ_k (Nat.le_refl j)
    have o3 : rsJ c j 3 j = c 3 j := rsJ_k (Nat.le_refl j)
    simp (disch := omega) only [gi_nI, tn_nI, hs_1, hs_2, hs_3, hs_4, hs_5, hs_6, hs_7, hs_s, hs_m, hs_h, hs_t, lit_nI, nI_add, nI_mul, nI_eq, nI_leI, nI_ltI, nm_i, bd_s, o0, o2, o3, h1, e2, su_hs, ↓reduceIte]
    by_cases h3 : c 3 j = 0
    · have h3' : ¬ 0 < c 3 j := by omega
      by_cases h4 : hld c j ≤ c 2 j
      · have hy : c 3 j = 0 ∧ hld c j ≤ c 2 j := ⟨h3, h4⟩
        rw [rcJ_t hy, ← rsJ_t hy]
        simp (disch := omega) only [h3', h4, ↓reduceIte, nI_eq]
      · have hn : ¬ (c 3 j = 0 ∧ hld c j ≤ c 2 j) := fun z => h4 z.2
        rw [rcJ_f hn, ← rsJ_f hn]
        simp (disch := omega) only [h3', h4, ↓reduceIte, nI_eq]
    · have h3' : 0 < c 3 j := by omega
      have hn : ¬ (c 3 j = 0 ∧ hld c j ≤ c 2 j) := fun z => h3 z.1
      rw [rcJ_f hn, ← rsJ_f hn]
      simp (disch := omega) only [h3', ↓reduceIte, nI_eq]
  · have o0 : rsJ c (c 16 0) 16 0 = c 16 0 := rsJ_o (by decide) (by decide)
    simp (disch := omega) only [gi_nI, tn_nI, hs_1, hs_2, hs_3, hs_4, hs_5, hs_6, hs_7, hs_s, hs_m, hs_h, hs_t, lit_nI, nI_add, nI_mul, nI_eq, nI_leI, nI_ltI, nm_i, bd_s, o0, Nat.le_refl, ↓reduceIte]
theorem X0_loosen {c : G2} {G : St} {s b : Nat} (hI : Iv c) (h : s < 5) (hb : b ≤ 100000) : f_X0_loosen (hs c G) (nI s) (nI b) = some (hs (if c 3 s = 0 then gu c 2 s (min 99 (c 2 s + b)) else c) G) := by
  have e1 := X0_isIn (G := G) hI h
  have b2 := hI.1 2 s
  unfold f_X0_loosen
  simp (disch := omega) only [gi_nI, tn_nI, hs_1, hs_2, hs_3, hs_4, hs_5, hs_6, hs_7, hs_s, hs_m, hs_h, hs_t, lit_nI, nI_add, nI_mul, nI_eq, nI_leI, nI_ltI, nm_i, bd_s, e1, mnN, su_hs, ↓reduceIte]
  by_cases h3 : c 3 s = 0
  · simp (disch := omega) only [h3, ↓reduceIte, nI_eq]
    simp
  · simp (disch := omega) only [h3, ↓reduceIte, nI_eq]
theorem X5_held {v b : Nat} (hv : v < 2147483648) (hb : b < 2147483648) : f_X5_held (nI v) 0 (nI b) = some (nI (min b v)) := by
  unfold f_X5_held
  simp (disch := omega) only [gi_nI, tn_nI, hs_1, hs_2, hs_3, hs_4, hs_5, hs_6, hs_7, hs_s, hs_m, hs_h, hs_t, lit_nI, nI_add, nI_mul, nI_eq, nI_leI, nI_ltI, nm_i, bd_s, ↓reduceIte]
  by_cases h : v ≤ b
  · simp only [h, Nat.zero_le, ↓reduceIte, Nat.min_eq_right]
  · simp only [h, Nat.zero_le, ↓reduceIte]
    rw [Nat.min_eq_left (by omega)]
