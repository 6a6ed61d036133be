/-! WHAT A HARBOUR IS, in numbers -/
def asH (c : G2) (m : Nat) : Nat := c 5 m + 1
def asM (c : G2) (m t : Nat) : Nat := if t % 2 = 0 then asH c m else 2 * asH c m
def wtT (c : G2) (m t : Nat) : Nat := if c 4 m = 0 then asH c m else if c 4 m = 2 then asM c m t else if c 4 m = 3 then max 1 (asH c m / 2) else if c 4 m = 4 then asM c m t + 3 else 0
def wth (c : G2) (m : Nat) : Nat := wtT c m (c 16 3)
def crd (c : G2) (m : Nat) : Nat := if c 4 m = 4 then wth c m / 3 else if c 4 m = 5 then 1 else 0
def mor (c : G2) (m : Nat) : Nat := if c 4 m = 1 ∨ c 4 m = 5 then 0 else if c 4 m = 3 then 2 else 1
def hld (c : G2) (s : Nat) : Nat := 3 * c 1 s + 2 + (if c 16 3 % 2 = 0 then 2 else 0) + c 16 2 / 10
def lck (c : G2) (s : Nat) : Nat := if c 3 s = 0 then hld c s - c 2 s else 0
def poN (c : G2) (s t : Nat) : Nat → Nat
  | 0 => 0
  | k + 1 => poN c s t k + if c 7 k = s then c 6 k * wtT c k t else 0
def poT (c : G2) (s t : Nat) : Nat := poN c s t (c 16 1)
def pol (c : G2) (s : Nat) : Nat := poT c s (c 16 3)
/-- what every evaluation needs of a harbour -/
def Iv (c : G2) : Prop := (∀ i k, c i k ≤ 9999) ∧ c 16 0 ≤ 5 ∧ c 16 1 ≤ 8 ∧ (∀ m, c 4 m ≤ 5) ∧ ∀ m, m < c 16 1 → c 7 m < c 16 0
theorem b2i {p : Prop} [Decidable p] : fz (if p then some (nI 1) else some (nI 0)) = some (nI (if p then 1 else 0)) := by
  by_cases h : p <;> simp [h, fz, bd, gd, nI]
theorem b2j {p : Prop} [Decidable p] : fz (if p then some (nI 0) else some (nI 1)) = some (nI (if p then 0 else 1)) := by
  by_cases h : p <;> simp [h, fz, bd, gd, nI]
theorem fz0 : fz (some (nI 0)) = some (nI 0) := by simp [fz, bd, gd, nI]
theorem fz1 : fz (some (nI 1)) = some (nI 1) := by simp [fz, bd, gd, nI]
theorem k06 {k : Nat} (h : k ≤ 5) : k = 0 ∨ k = 1 ∨ k = 2 ∨ k = 3 ∨ k = 4 ∨ k = 5 := by omega
theorem wtT_le {c : G2} {m t : Nat} (hI : Iv c) : wtT c m t ≤ 20003 := by
  have h4 := hI.2.2.2.1 m
  have h5 := hI.1 5 m
  unfold wtT asM asH
  rcases k06 h4 with e | e | e | e | e | e <;> simp only [e] <;> by_cases ht : t % 2 = 0 <;> simp [ht] <;> omega
theorem wth_le {c : G2} {m : Nat} (hI : Iv c) : wth c m ≤ 20003 := wtT_le hI
theorem hld_le {c : G2} {s : Nat} (hI : Iv c) : hld c s ≤ 40000 := by
  have h1 := hI.1 1 s
  have h2 := hI.1 16 2
  unfold hld
  split <;> omega
theorem poN_le {c : G2} {s t : Nat} (hI : Iv c) : ∀ k, poN c s t k ≤ 200010000 * k
  | 0 => by simp [poN]
  | k + 1 => by
    have h1 := poN_le (s := s) (t := t) hI k
    have h2 := wtT_le (m := k) (t := t) hI
    have h3 := hI.1 6 k
    have h4 : c 6 k * wtT c k t ≤ 9999 * 20003 := Nat.mul_le_mul h3 h2
    unfold poN
    split <;> omega
theorem poT_le {c : G2} {s t : Nat} (hI : Iv c) : poT c s t ≤ 1600080000 := by
  have h1 := poN_le (s := s) (t := t) hI (c 16 1)
  have h2 := hI.2.2.1
  unfold poT
  omega
theorem pol_le {c : G2} {s : Nat} (hI : Iv c) : pol c s ≤ 1600080000 := poT_le hI
theorem lck_le {c : G2} {s : Nat} (hI : Iv c) : lck c s ≤ 40000 := by
  have := hld_le (s := s) hI
  unfold lck
  split <;> omega
/-! the class's harbour -/
theorem X0_isIn {c : G2} {G : St} {s : Nat} (hI : Iv c) (h : s < 5) : f_X0_isIn (hs c G) (nI s) = some (nI (if c 3 s = 0 then 1 else 0)) := by
  have := hI.1 3 s
  unfold f_X0_isIn
  simp (disch := omega) only [gi_nI, tn_nI, hs_1, hs_2, hs_3, hs_4, hs_5, hs_6, hs_7, hs_s, hs_m, hs_h, hs_t, lit_nI, nI_add, nI_mul, nI_eq, nI_leI, nI_ltI, nm_i, bd_s, ↓reduceIte]
  exact b2i
theorem X0_isEbb {c : G2} {G : St} (hI : Iv c) : f_X0_isEbb (hs c G) = some (nI (if c 16 3 % 2 = 0 then 0 else 1)) := by
  have := hI.1 16 3
  unfold f_X0_isEbb
  simp (disch := omega) only [gi_nI, tn_nI, hs_1, hs_2, hs_3, hs_4, hs_5, hs_6, hs_7, hs_s, hs_m, hs_h, hs_t, lit_nI, nI_add, nI_mul, nI_eq, nI_leI, nI_ltI, nm_i, bd_s, nI_mod, ↓reduceIte]
  exact b2j
theorem X0_worth {c : G2} {G : St} {m : Nat} (hI : Iv c) (h : m < 8) : f_X0_worth (hs c G) (nI m) = some (nI (wth c m)) := by
  have hE := X0_isEbb (G := G) hI
  have h4 := hI.2.2.2.1 m
  have h5 := hI.1 5 m
  unfold f_X0_worth wth wtT asM asH
  by_cases ht : c 16 3 % 2 = 0 <;> rcases k06 h4 with e | e | e | e | e | e <;> simp only [ht, e, ↓reduceIte] at hE ⊢ <;> simp (disch := omega) only [gi_nI, tn_nI, hs_1, hs_2, hs_3, hs_4, hs_5, hs_6, hs_7, hs_s, hs_m, hs_h, hs_t, lit_nI, nI_add, nI_mul, nI_eq, nI_leI, nI_ltI, nm_i, bd_s, hE, e, nI_div, ↓reduceIte] <;> ((repeat' split) <;> first | rfl | omega | (refine congrArg (fun z => some (nI z)) ?_; omega) | (exfalso; omega))
theorem X0_carried {c : G2} {G : St} {m : Nat} (hI : Iv c) (h : m < 8) : f_X0_carried (hs c G) (nI m) = some (nI (crd c m)) := by
  have hW := X0_worth (G := G) hI h
  have hl := wth_le (m := m) hI
  have h4 := hI.1 4 m
  unfold f_X0_carried crd
  simp (disch := omega) only [gi_nI, tn_nI, hs_1, hs_2, hs_3, hs_4, hs_5, hs_6, hs_7, hs_s, hs_m, hs_h, hs_t, lit_nI, nI_add, nI_mul, nI_eq, nI_leI, nI_ltI, nm_i, bd_s, hW, nI_div, ↓reduceIte]
  ((repeat' split) <;> first | rfl | omega | (refine congrArg (fun z => some (nI z)) ?_; omega) | (exfalso; omega))
theorem X0_sinsMore {c : G2} {G : St} {m : Nat} (hI : Iv c) (h : m < 8) : f_X0_sinsMore (hs c G) (nI m) = some (nI (mor c m)) := by
  have h4 := hI.2.2.2.1 m
  unfold f_X0_sinsMore mor
  simp (disch := omega) only [gi_nI, tn_nI, hs_1, hs_2, hs_3, hs_4, hs_5, hs_6, hs_7, hs_s, hs_m, hs_h, hs_t, lit_nI, nI_add, nI_mul, nI_eq, nI_leI, nI_ltI, nm_i, bd_s, ↓reduceIte]
  rcases k06 h4 with e | e | e | e | e | e <;> simp [e]
theorem X0_holds {c : G2} {G : St} {s : Nat} (hI : Iv c) (h : s < 5) : f_X0_holds (hs c G) (nI s) = some (nI (hld c s)) := by
  have hE := X0_isEbb (G := G) hI
  have h1 := hI.1 1 s
  have h2 := hI.1 16 2
  unfold f_X0_holds hld
  simp (disch := omega) only [gi_nI, tn_nI, hs_1, hs_2, hs_3, hs_4, hs_5, hs_6, hs_7, hs_s, hs_m, hs_h, hs_t, lit_nI, nI_add, nI_mul, nI_eq, nI_leI, nI_ltI, nm_i, bd_s, hE, nI_div, ↓reduceIte]
  by_cases ht : c 16 3 % 2 = 0 <;> simp [ht, nI]
theorem X0_lacks {c : G2} {G : St} {s : Nat} (hI : Iv c) (h : s < 5) : f_X0_lacks (hs c G) (nI s) = some (nI (lck c s)) := by
  have hE := X0_isIn (G := G) hI h
  have hH := X0_holds (G := G) hI h
  have hl := hld_le (s := s) hI
  have g2 := hI.1 2 s
  unfold f_X0_lacks lck
  simp (disch := omega) only [gi_nI, tn_nI, hs_1, hs_2, hs_3, hs_4, hs_5, hs_6, hs_7, hs_s, hs_m, hs_h, hs_t, lit_nI, nI_add, nI_mul, nI_eq, nI_leI, nI_ltI, nm_i, bd_s, hE, hH, ↓reduceIte]
  by_cases h0 : c 3 s = 0
  · simp only [h0, ↓reduceIte]
    by_cases h1 : c 2 s ≤ hld c s
    · simp (disch := omega) only [gi_nI, tn_nI, hs_1, hs_2, hs_3, hs_4, hs_5, hs_6, hs_7, hs_s, hs_m, hs_h, hs_t, lit_nI, nI_add, nI_mul, nI_eq, nI_leI, nI_ltI, nm_i, bd_s, nI_sub, ↓reduceIte]
      ((repeat' split) <;> first | rfl | omega | (refine congrArg (fun z => some (nI z)) ?_; omega) | (exfalso; omega))
    · have e1 : ¬ (nI 0 < nI (hld c s) - nI (c 2 s)) := by
        rw [Int32.not_lt, Int32.le_iff_toInt_le, Int32.toInt_sub, nI_toInt (by omega), nI_toInt (by omega), nI_toInt (by omega), Int.bmod_eq_of_le (by omega) (by omega)]
        omega
      simp (disch := omega) only [e1, nI_eq, ↓reduceIte]
      ((repeat' split) <;> first | rfl | omega | (refine congrArg (fun z => some (nI z)) ?_; omega) | (exfalso; omega))
  · simp (disch := omega) only [h0, nI_eq, ↓reduceIte]
theorem X0_hasMan {c : G2} {G : St} {m : Nat} (hI : Iv c) (h : m < 2147483648) : f_X0_hasMan (hs c G) (nI m) = some (nI (if m < c 16 1 then 1 else 0)) := by
  have hN := hI.2.2.1
  unfold f_X0_hasMan
  simp (disch := omega) only [gi_nI, tn_nI, hs_1, hs_2, hs_3, hs_4, hs_5, hs_6, hs_7, hs_s, hs_m, hs_h, hs_t, lit_nI, nI_add, nI_mul, nI_eq, nI_leI, nI_ltI, nm_i, bd_s, ↓reduceIte]
  by_cases h1 : m < c 16 1
  · have : ¬ c 16 1 ≤ m := by omega
    simp [h1, this, fz1]
  · have : c 16 1 ≤ m := by omega
    simp [h1, this, fz0]
theorem X0_pool {c : G2} {G : St} {s : Nat} (hI : Iv c) (h : s < 5) : f_X0_pool (hs c G) (nI s) = some (nI (pol c s)) := by
  have hN := hI.2.2.1
  have hS := hI.2.1
  unfold f_X0_pool
  refine lp_c (S := fun j => (nI (poN c s (c 16 3) j), nI j)) (c 16 1) (fun j hj nx => ?_) (fun nx => ?_) (by omega)
  · have h1 : ¬ c 16 1 ≤ j := by omega
    have h2 := hI.2.2.2.2 j hj
    have h3 := X0_worth (G := G) hI (show j < 8 by omega)
    simp (disch := omega) only [gi_nI, tn_nI, hs_1, hs_2, hs_3, hs_4, hs_5, hs_6, hs_7, hs_s, hs_m, hs_h, hs_t, lit_nI, nI_add, nI_mul, nI_eq, nI_leI, nI_ltI, nm_i, bd_s, h1, h3, ↓reduceIte]
    by_cases h4 : c 7 j = s
    · simp (disch := omega) only [h4, poN, wth, ↓reduceIte, nI_eq]
    · simp (disch := omega) only [h4, poN, ↓reduceIte, nI_eq, Nat.add_zero]
  · simp (disch := omega) only [gi_nI, tn_nI, hs_1, hs_2, hs_3, hs_4, hs_5, hs_6, hs_7, hs_s, hs_m, hs_h, hs_t, lit_nI, nI_add, nI_mul, nI_eq, nI_leI, nI_ltI, nm_i, bd_s, ↓reduceIte]
    simp only [Nat.le_refl, ↓reduceIte]
    rfl
