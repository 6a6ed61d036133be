/-! THE NUMBERS: a harbour's memory as natural numbers c over what else lies there (G); how the functions' pieces look there. -/
abbrev G2 : Type := Nat → Nat → Nat
def gu (c : G2) (a k v : Nat) : G2 := fun i j => if i = a ∧ j = k then v else c i j
def hs (c : G2) (G : St) : St := fun i => if 1 ≤ i ∧ i ≤ 7 then (fun k => nI (c i k)) else if i = 16 then (fun k => if k < 4 then nI (c 16 k) else G 16 k) else G i
theorem gu_s {c : G2} {a k v : Nat} : gu c a k v a k = v := by simp [gu]
theorem gu_a {c : G2} {a k v i j : Nat} (h : i ≠ a) : gu c a k v i j = c i j := by simp [gu, h]
theorem gu_k {c : G2} {a k v i j : Nat} (h : j ≠ k) : gu c a k v i j = c i j := by simp [gu, h]
theorem hs_1 {c : G2} {G : St} {k : Nat} : hs c G 1 k = nI (c 1 k) := rfl
theorem hs_2 {c : G2} {G : St} {k : Nat} : hs c G 2 k = nI (c 2 k) := rfl
theorem hs_3 {c : G2} {G : St} {k : Nat} : hs c G 3 k = nI (c 3 k) := rfl
theorem hs_4 {c : G2} {G : St} {k : Nat} : hs c G 4 k = nI (c 4 k) := rfl
theorem hs_5 {c : G2} {G : St} {k : Nat} : hs c G 5 k = nI (c 5 k) := rfl
theorem hs_6 {c : G2} {G : St} {k : Nat} : hs c G 6 k = nI (c 6 k) := rfl
theorem hs_7 {c : G2} {G : St} {k : Nat} : hs c G 7 k = nI (c 7 k) := rfl
theorem hs_s {c : G2} {G : St} : hs c G 16 0 = nI (c 16 0) := rfl
theorem hs_m {c : G2} {G : St} : hs c G 16 1 = nI (c 16 1) := rfl
theorem hs_h {c : G2} {G : St} : hs c G 16 2 = nI (c 16 2) := rfl
theorem hs_t {c : G2} {G : St} : hs c G 16 3 = nI (c 16 3) := rfl
theorem hs_o {c : G2} {G : St} {i : Nat} (h : 8 ≤ i) (h2 : i ≠ 16) : hs c G i = G i := by
  unfold hs
  rw [if_neg (by omega), if_neg h2]
theorem hs_0 {c : G2} {G : St} : hs c G 0 = G 0 := rfl
theorem hs_16 {c : G2} {G : St} {k : Nat} (h : 4 ≤ k) : hs c G 16 k = G 16 k := by
  show (if k < 4 then nI (c 16 k) else G 16 k) = _
  rw [if_neg (by omega)]
theorem su_hs {c : G2} {G : St} {a k v : Nat} (h1 : 1 ≤ a) (h2 : a ≤ 7) : su (hs c G) a k (nI v) = hs (gu c a k v) G := by
  funext i j
  unfold su
  by_cases hi : i = a
  · subst hi
    rw [if_pos rfl]
    have h12 : 1 ≤ i ∧ i ≤ 7 := ⟨h1, h2⟩
    simp only [upd, hs, gu, h12, and_self, ↓reduceIte, true_and]
    by_cases hj : j = k <;> simp [hj]
  · rw [if_neg hi]
    unfold hs gu
    by_cases h : 1 ≤ i ∧ i ≤ 7
    · rw [if_pos h, if_pos h]; simp [hi]
    · rw [if_neg h, if_neg h]
      by_cases h6 : i = 16
      · rw [if_pos h6, if_pos h6]
        have : ¬ (16 = a) := by omega
        simp [this]
      · rw [if_neg h6, if_neg h6]
theorem su_hs16 {c : G2} {G : St} {k v : Nat} (h : k < 4) : su (hs c G) 16 k (nI v) = hs (gu c 16 k v) G := by
  funext i j
  unfold su
  by_cases hi : i = 16
  · subst hi
    rw [if_pos rfl]
    show (if j = k then nI v else (if j < 4 then nI (c 16 j) else G 16 j)) = (if j < 4 then nI (gu c 16 k v 16 j) else G 16 j)
    by_cases hj : j = k
    · subst hj; rw [if_pos rfl, if_pos h, gu_s]
    · rw [if_neg hj, gu_k hj]
  · rw [if_neg hi]
    unfold hs
    by_cases h : 1 ≤ i ∧ i ≤ 7
    · rw [if_pos h, if_pos h]; funext; rw [gu_a hi]
    · rw [if_neg h, if_neg h, if_neg hi, if_neg hi]
theorem su_hso {c : G2} {G : St} {a k : Nat} {v : Int32} (h1 : 8 ≤ a) (h2 : a ≠ 16) : su (hs c G) a k v = hs c (su G a k v) := by
  funext i j
  unfold su
  by_cases hi : i = a
  · subst hi
    rw [if_pos rfl, hs_o h1 h2, hs_o h1 h2, if_pos rfl]
  · rw [if_neg hi]
    unfold hs
    simp only [hi, if_false]
    by_cases h : i = 16
    · subst h; simp [Ne.symm h2]
    · simp [h]
theorem su_hs0 {c : G2} {G : St} {k : Nat} {v : Int32} : su (hs c G) 0 k v = hs c (su G 0 k v) := by
  funext i j
  unfold su
  by_cases hi : i = 0
  · subst hi; rfl
  · rw [if_neg hi]
    unfold hs
    simp only [hi, if_false]
    by_cases h : i = 16
    · subst h; simp
    · simp [h]
theorem su_hs16o {c : G2} {G : St} {k : Nat} {v : Int32} (h : 4 ≤ k) : su (hs c G) 16 k v = hs c (su G 16 k v) := by
  funext i j
  unfold su
  by_cases hi : i = 16
  · subst hi
    rw [if_pos rfl]
    show (if j = k then v else (if j < 4 then nI (c 16 j) else G 16 j)) = (if j < 4 then nI (c 16 j) else (if 16 = 16 then upd (G 16) k v else G 16) j)
    rw [if_pos rfl]
    by_cases hj : j = k
    · subst hj; rw [if_pos rfl, if_neg (by omega)]; simp [upd]
    · rw [if_neg hj]; simp [upd, hj]
  · rw [if_neg hi]
    unfold hs
    simp [hi]
theorem lit_nI (n : Nat) : (@OfNat.ofNat Int32 n _) = nI (@OfNat.ofNat Nat n _) := rfl
theorem gi_nI {α : Type} {j n : Nat} {k : Option α} (h : j < n) (hn : n < 2147483648) : gi (nI j) n k = k := by
  unfold gi
  rw [if_neg (nI_in h hn)]
theorem gd_t {α : Type} {c : Prop} [Decidable c] {k : Option α} (h : c) : gd c k = k := by unfold gd; rw [if_pos h]
theorem bd_s {α β : Type} {a : α} {k : α → Option β} : bd (some a) k = k a := rfl
theorem nm_i {α β : Type} {v : α} {k : α → β} : nm v k = k v := rfl
theorem fz_s {a : Int32} (h : a = 0 ∨ a = 1) : fz (some a) = some a := by unfold fz; rw [bd_s, gd_t h]
theorem fz_ite {c : Prop} [Decidable c] : fz (if c then some 1 else some 0) = some (if c then 1 else 0) := by
  by_cases h : c <;> simp [h, fz_s]
theorem tn_nI {n : Nat} (h : n < 2147483648) : (nI n).toNatClampNeg = n := nI_clamp h
theorem nI_sub {a b : Nat} (h : b ≤ a) : nI a - nI b = nI (a - b) := by
  have h1 : nI (a - b) + nI b = nI a := by rw [nI_add]; congr 1; omega
  rw [← h1, Int32.add_sub_cancel]
theorem nI_div {a b : Nat} (ha : a < 2147483648) (hb : b < 2147483648) : nI a / nI b = nI (a / b) := by
  have h1 : a / b ≤ a := Nat.div_le_self a b
  have h3 : a < 2147483648 := ha
  apply Int32.toInt_inj.mp
  rw [Int32.toInt_div, nI_toInt ha, nI_toInt hb, nI_toInt (by omega)]
  rw [show (a : Int).tdiv b = ((a / b : Nat) : Int) by simp [Int.ofNat_tdiv]]
  clear ha hb
  generalize a / b = q at h1 ⊢
  apply Int.bmod_eq_of_le <;> omega
theorem nI_mul (a b : Nat) : nI a * nI b = nI (a * b) := (Int32.ofNat_mul a b).symm
theorem nI_mod {a b : Nat} (ha : a < 2147483648) (hb : b < 2147483648) : nI a - nI a / nI b * nI b = nI (a % b) := by
  rw [nI_div ha hb, nI_mul, nI_sub (Nat.div_mul_le_self a b)]
  congr 1
  have := Nat.div_add_mod a b
  rw [Nat.mul_comm] at this
  omega
/-- a loop that counts: g j is what is left from round j on -/
theorem lp_g {σ ρ : Type} {f : (σ → Option ρ) → σ → Option ρ} (S : Nat → σ) (g : Nat → Option ρ) (N : Nat) (hs : ∀ j, j < N → ∀ nx, nx (S (j + 1)) = g (j + 1) → f nx (S j) = g j) (he : ∀ nx, f nx (S N) = g N) {n : Nat} (hn : N < n) : lp f n (S 0) = g 0 := by
  have key : ∀ d j n : Nat, j + d = N → d < n → lp f n (S j) = g j := by
    intro d
    induction d with
    | zero =>
      intro j n hj hn
      obtain ⟨n, rfl⟩ : ∃ k, n = k + 1 := ⟨n - 1, by omega⟩
      have : j = N := by omega
      subst this
      exact he _
    | succ d ih =>
      intro j n hj hn
      obtain ⟨n, rfl⟩ : ∃ k, n = k + 1 := ⟨n - 1, by omega⟩
      exact hs j (by omega) _ (ih (j + 1) n (by omega) (by omega))
  exact key N 0 n (by omega) hn
/-- a loop that counts to its end -/
theorem lp_c {σ ρ : Type} {f : (σ → Option ρ) → σ → Option ρ} (S : Nat → σ) (N : Nat) {out : Option ρ} (hs : ∀ j, j < N → ∀ nx, f nx (S j) = nx (S (j + 1))) (he : ∀ nx, f nx (S N) = out) {n : Nat} (hn : N < n) : lp f n (S 0) = out :=
  lp_g S (fun _ => out) N (fun j hj nx h => (hs j hj nx).trans h) he hn
