/-! THE LETTERS: the class's scan -/
def cs (b : Nat) : Nat := if b = 98 then 4 else if b = 109 then 3 else if b = 115 then 2 else if b = 116 then 2 else if b = 118 then 4 else if b = 119 then 4 else 0
def ln (i : Nat) : Nat := if i = 2 then 2 else if i = 3 then 5 else if i = 4 then 3 else if i = 1 then 6 else 0
def kN (x : Nat) : Nat := if x = 104 then 0 else if x = 112 then 1 else if x = 109 then 2 else if x = 115 then 3 else if x = 97 then 4 else if x = 98 then 5 else 6
def ft (x ch : Nat) : Bool := if ch = 57 then decide (48 ≤ x) && decide (x ≤ 57) else if ch = 107 then decide (kN x < 6) else decide (x = ch)
def pat (i : Nat) : List Nat := if i = 2 then [57, 59] else if i = 3 then [107, 57, 57, 57, 59] else [57, 57, 59]
def chr (i k : Nat) : Nat := (pat i).getD k 0
theorem l_len : ∀ i, i < 5 → f_J0_length_8abf5 i = some (nI (ln i)) := by decide +kernel
theorem l_emp : ∀ i, i < 5 → f_J0_isEmpty_aae02 i = some (nI (if i = 0 then 1 else 0)) := by decide +kernel
theorem l_chr : ∀ i, i < 5 → 2 ≤ i → ∀ k, k < 6 → k < ln i → f_J0_charAt_5068e i (nI k) = some (nI (chr i k)) := by decide +kernel
theorem l_fit1 : ∀ x, x < 256 → f_X1_fits (nI x) (nI 57) = some (nI (if ft x 57 then 1 else 0)) := by decide +kernel
theorem l_fit2 : ∀ x, x < 256 → f_X1_fits (nI x) (nI 59) = some (nI (if ft x 59 then 1 else 0)) := by decide +kernel
theorem l_fit3 : ∀ x, x < 256 → f_X1_fits (nI x) (nI 107) = some (nI (if ft x 107 then 1 else 0)) := by decide +kernel
theorem l_par : ∀ x, x < 256 → f_X1_partsBehind (nI x) = some (cs x) := by decide +kernel
theorem l_kin : ∀ x, x < 256 → f_X1_kindOf (nI x) = some (if kN x < 6 then nI (kN x) else -nI 1) := by decide +kernel
theorem c_chr : ∀ i, i < 5 → 2 ≤ i → ∀ k, k < 6 → k < ln i → (chr i k = 57 ∨ chr i k = 59 ∨ chr i k = 107) := by decide +kernel
theorem cs_or (b : Nat) : cs b = 0 ∨ cs b = 2 ∨ cs b = 3 ∨ cs b = 4 := by
  unfold cs
  repeat' split
  all_goals simp
theorem ln_or {i : Nat} (h : i = 0 ∨ i = 2 ∨ i = 3 ∨ i = 4) : ln i ≤ 5 ∧ (0 < ln i → 2 ≤ i) ∧ i < 5 := by
  rcases h with rfl | rfl | rfl | rfl <;> decide
def go (T : Nat → Nat) (L : Nat) : Nat → Nat → Nat → Nat → Int32
  | 0, i, k, _ => if L = 0 then nI L else if ln i ≤ k then -nI 9 else nI L
  | d + 1, i, k, p => if ln i ≤ k then (if cs (T p) = 0 then nI p else go T L d (cs (T p)) 0 (p + 1)) else if ft (T p) (chr i k) = true then go T L d i (k + 1) (p + 1) else nI p
theorem X1_first {g : St} {T : Nat → Nat} {L : Nat} (hg : ∀ j, j < L → g 0 j = nI (T j)) (hT : ∀ j, T j < 256) (hL : L ≤ 96) (hgL : g 1 0 = nI L) : f_X1_firstThatCanNotGoOn g = some (go T L L 0 0 0) := by
  unfold f_X1_firstThatCanNotGoOn
  refine lp_k (fun d t s => d + t.2.2 = L ∧ (t.1 = 0 ∨ t.1 = 2 ∨ t.1 = 3 ∨ t.1 = 4) ∧ t.2.1 ≤ ln t.1 ∧ s = (t.1, nI t.2.1, nI t.2.2)) (fun d t => some (go T L d t.1 t.2.1 t.2.2)) (fun d t s hs1 => ?_) (fun t s hs1 nx => ?_) L (0, 0, 0) _ 1000 ⟨rfl, Or.inl rfl, Nat.zero_le _, rfl⟩ (by omega)
  · obtain ⟨i, k, p⟩ := t
    obtain ⟨h1, h2, h3, rfl⟩ := hs1
    dsimp only at h1 h2 h3 ⊢
    obtain ⟨b1, b2, b3⟩ := ln_or h2
    have hp : ¬ L ≤ p := by omega
    have e1 := l_len i b3
    have e2 := hg p (by omega)
    by_cases hk : ln i ≤ k
    · have e3 := l_par (T p) (hT p)
      have hc := cs_or (T p)
      obtain ⟨-, -, c3⟩ := ln_or hc
      have e4 := l_emp (cs (T p)) c3
      by_cases h0 : cs (T p) = 0
      · left
        intro nx
        rw [if_pos h0] at e4
        simp (disch := omega) only [gi_nI, tn_nI, hs_1, hs_2, hs_3, hs_4, hs_5, hs_6, hs_7, hs_s, hs_m, hs_h, hs_t, lit_nI, nI_add, nI_mul, nI_eq, nI_leI, nI_ltI, nm_j, bd_j, Nat.one_ne_zero, Nat.zero_ne_one, Nat.reduceEqDiff, Nat.reduceLeDiff, Nat.reduceLT, Nat.reduceAdd, Nat.reduceSub, Nat.reduceMul, e10, e01, en1, en2, en3, en4, en6, rq1, rq2, rq3, rq4, rq6, rm1, rm2, rm3, rm4, rm6, fz0, fz1, X5_bound_e, X5_isIn_e, Nat.lt_irrefl, Nat.le_refl, Nat.not_lt_zero, Nat.zero_le, n9a, n9b, n9c, n9d, n9e, n9f, n9g, hgL, hp, e1, hk, e2, e3, e4, ↓reduceIte]
        simp only [go, hk, h0, ↓reduceIte]
      · right
        rw [if_neg h0] at e4
        refine ⟨(cs (T p), 0, p + 1), _, ⟨by dsimp only; omega, hc, Nat.zero_le _, rfl⟩, ?_, fun nx => ?_⟩
        · simp only [go, hk, h0, ↓reduceIte]
        · simp (disch := omega) only [gi_nI, tn_nI, hs_1, hs_2, hs_3, hs_4, hs_5, hs_6, hs_7, hs_s, hs_m, hs_h, hs_t, lit_nI, nI_add, nI_mul, nI_eq, nI_leI, nI_ltI, nm_j, bd_j, Nat.one_ne_zero, Nat.zero_ne_one, Nat.reduceEqDiff, Nat.reduceLeDiff, Nat.reduceLT, Nat.reduceAdd, Nat.reduceSub, Nat.reduceMul, e10, e01, en1, en2, en3, en4, en6, rq1, rq2, rq3, rq4, rq6, rm1, rm2, rm3, rm4, rm6, fz0, fz1, X5_bound_e, X5_isIn_e, Nat.lt_irrefl, Nat.le_refl, Nat.not_lt_zero, Nat.zero_le, n9a, n9b, n9c, n9d, n9e, n9f, n9g, hgL, hp, e1, hk, e2, e3, e4, ↓reduceIte]
    · have e3 := l_chr i b3 (b2 (by omega)) k (by omega) (by omega)
      have e4 : f_X1_fits (nI (T p)) (nI (chr i k)) = some (nI (if ft (T p) (chr i k) then 1 else 0)) := by
        rcases c_chr i b3 (b2 (by omega)) k (by omega) (by omega) with h | h | h
        · rw [h]; exact l_fit1 _ (hT p)
        · rw [h]; exact l_fit2 _ (hT p)
        · rw [h]; exact l_fit3 _ (hT p)
      by_cases hf : ft (T p) (chr i k) = true
      · right
        rw [if_pos hf] at e4
        refine ⟨(i, k + 1, p + 1), _, ⟨by dsimp only; omega, h2, by dsimp only; omega, rfl⟩, ?_, fun nx => ?_⟩
        · simp only [go, hk, hf, ↓reduceIte]
        · simp (disch := omega) only [gi_nI, tn_nI, hs_1, hs_2, hs_3, hs_4, hs_5, hs_6, hs_7, hs_s, hs_m, hs_h, hs_t, lit_nI, nI_add, nI_mul, nI_eq, nI_leI, nI_ltI, nm_j, bd_j, Nat.one_ne_zero, Nat.zero_ne_one, Nat.reduceEqDiff, Nat.reduceLeDiff, Nat.reduceLT, Nat.reduceAdd, Nat.reduceSub, Nat.reduceMul, e10, e01, en1, en2, en3, en4, en6, rq1, rq2, rq3, rq4, rq6, rm1, rm2, rm3, rm4, rm6, fz0, fz1, X5_bound_e, X5_isIn_e, Nat.lt_irrefl, Nat.le_refl, Nat.not_lt_zero, Nat.zero_le, n9a, n9b, n9c, n9d, n9e, n9f, n9g, hgL, hp, e1, hk, e2, e3, e4, ↓reduceIte]
      · left
        intro nx
        rw [if_neg hf] at e4
        simp (disch := omega) only [gi_nI, tn_nI, hs_1, hs_2, hs_3, hs_4, hs_5, hs_6, hs_7, hs_s, hs_m, hs_h, hs_t, lit_nI, nI_add, nI_mul, nI_eq, nI_leI, nI_ltI, nm_j, bd_j, Nat.one_ne_zero, Nat.zero_ne_one, Nat.reduceEqDiff, Nat.reduceLeDiff, Nat.reduceLT, Nat.reduceAdd, Nat.reduceSub, Nat.reduceMul, e10, e01, en1, en2, en3, en4, en6, rq1, rq2, rq3, rq4, rq6, rm1, rm2, rm3, rm4, rm6, fz0, fz1, X5_bound_e, X5_isIn_e, Nat.lt_irrefl, Nat.le_refl, Nat.not_lt_zero, Nat.zero_le, n9a, n9b, n9c, n9d, n9e, n9f, n9g, hgL, hp, e1, hk, e2, e3, e4, ↓reduceIte]
        simp only [go, hk, hf, ↓reduceIte]
        simp
  · obtain ⟨i, k, p⟩ := t
    obtain ⟨h1, h2, h3, rfl⟩ := hs1
    dsimp only at h1 h2 h3 ⊢
    obtain ⟨b1, b2, b3⟩ := ln_or h2
    have hp : p = L := by omega
    subst hp
    have e1 := l_len i b3
    unfold go
    by_cases h0 : p = 0
    · simp (disch := omega) only [gi_nI, tn_nI, hs_1, hs_2, hs_3, hs_4, hs_5, hs_6, hs_7, hs_s, hs_m, hs_h, hs_t, lit_nI, nI_add, nI_mul, nI_eq, nI_leI, nI_ltI, nm_j, bd_j, Nat.one_ne_zero, Nat.zero_ne_one, Nat.reduceEqDiff, Nat.reduceLeDiff, Nat.reduceLT, Nat.reduceAdd, Nat.reduceSub, Nat.reduceMul, e10, e01, en1, en2, en3, en4, en6, rq1, rq2, rq3, rq4, rq6, rm1, rm2, rm3, rm4, rm6, fz0, fz1, X5_bound_e, X5_isIn_e, Nat.lt_irrefl, Nat.le_refl, Nat.not_lt_zero, Nat.zero_le, n9a, n9b, n9c, n9d, n9e, n9f, n9g, hgL, e1, h0, ↓reduceIte]
    · by_cases hk : ln i ≤ k
      · simp (disch := omega) only [gi_nI, tn_nI, hs_1, hs_2, hs_3, hs_4, hs_5, hs_6, hs_7, hs_s, hs_m, hs_h, hs_t, lit_nI, nI_add, nI_mul, nI_eq, nI_leI, nI_ltI, nm_j, bd_j, Nat.one_ne_zero, Nat.zero_ne_one, Nat.reduceEqDiff, Nat.reduceLeDiff, Nat.reduceLT, Nat.reduceAdd, Nat.reduceSub, Nat.reduceMul, e10, e01, en1, en2, en3, en4, en6, rq1, rq2, rq3, rq4, rq6, rm1, rm2, rm3, rm4, rm6, fz0, fz1, X5_bound_e, X5_isIn_e, Nat.lt_irrefl, Nat.le_refl, Nat.not_lt_zero, Nat.zero_le, n9a, n9b, n9c, n9d, n9e, n9f, n9g, hgL, e1, h0, hk, ↓reduceIte]
      · simp (disch := omega) only [gi_nI, tn_nI, hs_1, hs_2, hs_3, hs_4, hs_5, hs_6, hs_7, hs_s, hs_m, hs_h, hs_t, lit_nI, nI_add, nI_mul, nI_eq, nI_leI, nI_ltI, nm_j, bd_j, Nat.one_ne_zero, Nat.zero_ne_one, Nat.reduceEqDiff, Nat.reduceLeDiff, Nat.reduceLT, Nat.reduceAdd, Nat.reduceSub, Nat.reduceMul, e10, e01, en1, en2, en3, en4, en6, rq1, rq2, rq3, rq4, rq6, rm1, rm2, rm3, rm4, rm6, fz0, fz1, X5_bound_e, X5_isIn_e, Nat.lt_irrefl, Nat.le_refl, Nat.not_lt_zero, Nat.zero_le, n9a, n9b, n9c, n9d, n9e, n9f, n9g, hgL, e1, h0, hk, ↓reduceIte]
/-! statements, one behind the other -/
def ck (T : Nat → Nat) (L : Nat) : List Nat → Nat → Option Nat
  | [], _ => none
  | ch :: r, p => if p < L ∧ ft (T p) ch = true then ck T L r (p + 1) else some p
theorem go_ck {T : Nat → Nat} {L i : Nat} : ∀ (r : List Nat) (k p : Nat), (∀ j, chr i (k + j) = r.getD j 0) → k + r.length = ln i → p ≤ L → go T L (L - p) i k p = match ck T L r p with
    | some e => nI e
    | none => go T L (L - (p + r.length)) i (ln i) (p + r.length)
  | [], k, p, h, hl, hp => by
    simp only [ck]
    have : k = ln i := by simpa using hl
    rw [this]
    rfl
  | ch :: r, k, p, h, hl, hp => by
    have hk : ¬ ln i ≤ k := by
      simp only [List.length_cons] at hl
      omega
    have hc : chr i k = ch := h 0
    by_cases hpL : p < L
    · have e : L - p = (L - (p + 1)) + 1 := by omega
      rw [e]
      by_cases hf : ft (T p) ch = true
      · have ih := go_ck (T := T) (L := L) r (k + 1) (p + 1) (fun j => by rw [show k + 1 + j = k + (j + 1) by omega, h (j + 1)]; rfl) (by simp only [List.length_cons] at hl; omega) (by omega)
        simp only [go, ck, hk, hc, hf, hpL, and_self, ↓reduceIte]
        rw [ih, List.length_cons, show p + (r.length + 1) = p + 1 + r.length by omega]
      · simp only [go, ck, hk, hc, hf, and_false, ↓reduceIte]
        simp
    · have e : L - p = 0 := by omega
      have e2 : p = L := by omega
      rw [e]
      simp only [go, ck, hk, hpL, false_and, ↓reduceIte]
      rw [e2]
      split <;> rfl
theorem pat_l : ∀ i, i < 5 → 2 ≤ i → (pat i).length = ln i := by decide
def stp (T : Nat → Nat) : Nat → Nat
  | 0 => 0
  | k + 1 => stp T k + 1 + ln (cs (T (stp T k)))
def wf (T : Nat → Nat) (L k : Nat) : Prop := stp T k < L ∧ ¬ cs (T (stp T k)) = 0 ∧ ck T L (pat (cs (T (stp T k)))) (stp T k + 1) = none
theorem ck_le {T : Nat → Nat} {L : Nat} : ∀ (r : List Nat) (p : Nat), p ≤ L → ck T L r p = none → p + r.length ≤ L
  | [], p, hp, _ => hp
  | ch :: r, p, hp, h => by
    unfold ck at h
    split at h
    · rename_i hx
      have := ck_le r (p + 1) (by omega) h
      simp only [List.length_cons]
      omega
    · cases h
theorem cs_lt {b : Nat} (h : ¬ cs b = 0) : cs b < 5 ∧ 2 ≤ cs b := by
  rcases cs_or b with e | e | e | e <;> omega
theorem wf_s {T : Nat → Nat} {L k : Nat} (h : wf T L k) : stp T (k + 1) ≤ L ∧ stp T k + 3 ≤ stp T (k + 1) := by
  obtain ⟨h1, h2, h3⟩ := h
  obtain ⟨c1, c2⟩ := cs_lt h2
  have h4 := ck_le _ _ (by omega) h3
  rw [pat_l _ c1 c2] at h4
  have h5 : 2 ≤ ln (cs (T (stp T k))) := by
    rcases cs_or (T (stp T k)) with e | e | e | e <;> rw [e] <;> first | (exact absurd e h2) | decide
  simp only [stp]
  omega
theorem stp_le {T : Nat → Nat} {L : Nat} : ∀ k, (∀ i, i < k → wf T L i) → stp T k ≤ L ∧ 3 * k ≤ stp T k
  | 0, _ => ⟨Nat.zero_le _, Nat.zero_le _⟩
  | k + 1, h => by
    have := stp_le k (fun i hi => h i (by omega))
    have := wf_s (h k (by omega))
    omega
theorem go_run {T : Nat → Nat} {L : Nat} : ∀ k, (∀ i, i < k → wf T L i) → ∃ i, (i = 0 ∨ i = 2 ∨ i = 3 ∨ i = 4) ∧ go T L L 0 0 0 = go T L (L - stp T k) i (ln i) (stp T k)
  | 0, _ => ⟨0, Or.inl rfl, rfl⟩
  | k + 1, h => by
    obtain ⟨i, h1, h2⟩ := go_run k (fun i hi => h i (by omega))
    have hw := h k (by omega)
    obtain ⟨w1, w2, w3⟩ := hw
    obtain ⟨c1, c2⟩ := cs_lt w2
    refine ⟨cs (T (stp T k)), cs_or _, ?_⟩
    have e : L - stp T k = (L - (stp T k + 1)) + 1 := by omega
    have g1 := go_ck (T := T) (L := L) (i := cs (T (stp T k))) (pat (cs (T (stp T k)))) 0 (stp T k + 1) (fun j => by rw [Nat.zero_add]; rfl) (by rw [Nat.zero_add]; exact pat_l _ c1 c2) (by omega)
    rw [w3, pat_l _ c1 c2] at g1
    dsimp only at g1
    rw [h2, e]
    simp only [go, Nat.le_refl, w2, ↓reduceIte]
    exact g1
def er (T : Nat → Nat) (L k : Nat) : Nat := if stp T k < L ∧ ¬ cs (T (stp T k)) = 0 then (ck T L (pat (cs (T (stp T k)))) (stp T k + 1)).getD 0 else stp T k
theorem go_bad {T : Nat → Nat} {L k : Nat} (h : ∀ i, i < k → wf T L i) (hb : ¬ wf T L k) (hk : stp T k < L ∨ k = 0) : go T L L 0 0 0 = nI (er T L k) := by
  obtain ⟨i, h1, h2⟩ := go_run k h
  have hle := stp_le k h
  rw [h2]
  by_cases hs0 : stp T k < L
  · have e : L - stp T k = (L - (stp T k + 1)) + 1 := by omega
    rw [e]
    unfold er
    by_cases hc : cs (T (stp T k)) = 0
    · simp only [go, Nat.le_refl, hc, not_true_eq_false, and_false, ↓reduceIte]
    · obtain ⟨c1, c2⟩ := cs_lt hc
      have g1 := go_ck (T := T) (L := L) (i := cs (T (stp T k))) (pat (cs (T (stp T k)))) 0 (stp T k + 1) (fun j => by rw [Nat.zero_add]; rfl) (by rw [Nat.zero_add]; exact pat_l _ c1 c2) (by omega)
      simp only [go, Nat.le_refl, hc, hs0, not_false_eq_true, and_self, ↓reduceIte]
      rw [g1]
      cases hck : ck T L (pat (cs (T (stp T k)))) (stp T k + 1) with
      | none => exact absurd ⟨hs0, hc, hck⟩ hb
      | some e => rfl
  · have hk0 : k = 0 := by omega
    subst hk0
    have hL : L = 0 := by
      simp only [stp] at hs0
      omega
    subst hL
    rfl
theorem go_good {T : Nat → Nat} {L k : Nat} (h : ∀ i, i < k → wf T L i) (hk : stp T k = L) (h0 : 0 < k) : go T L L 0 0 0 = -nI 9 := by
  obtain ⟨i, h1, h2⟩ := go_run k h
  have hle := stp_le k h
  have hL : ¬ L = 0 := by omega
  rw [h2, hk, Nat.sub_self]
  simp only [go, hL, Nat.le_refl, ↓reduceIte]
theorem wf_ex {T : Nat → Nat} {L : Nat} : ∀ d k, L - stp T k ≤ d → (∀ i, i < k → wf T L i) → ∃ N, (∀ i, i < N → wf T L i) ∧ ((stp T N = L ∧ 0 < N) ∨ (¬ wf T L N ∧ (stp T N < L ∨ N = 0)))
  | 0, k, hd, h => by
    have hle := stp_le k h
    by_cases hk : k = 0
    · refine ⟨k, h, Or.inr ⟨fun z => ?_, Or.inr hk⟩⟩
      have := z.1
      omega
    · exact ⟨k, h, Or.inl ⟨by omega, by omega⟩⟩
  | d + 1, k, hd, h => by
    have hle := stp_le k h
    by_cases hw : wf T L k
    · have hs1 := wf_s hw
      exact wf_ex d (k + 1) (by omega) (fun i hi => by
        by_cases hik : i = k
        · rw [hik]; exact hw
        · exact h i (by omega))
    · by_cases hs0 : stp T k < L
      · exact ⟨k, h, Or.inr ⟨hw, Or.inl hs0⟩⟩
      · by_cases hk : k = 0
        · exact ⟨k, h, Or.inr ⟨hw, Or.inr hk⟩⟩
        · exact ⟨k, h, Or.inl ⟨by omega, by omega⟩⟩
