/-! THE BASE: memories as functions, programs as functions with an answer or none, worlds and their parts, the contract's form. -/
abbrev St : Type := Nat → Nat → Int32
def su (h : St) (a k : Nat) (v : Int32) : St := fun i => if i = a then upd (h i) k v else h i
def nm {α β : Type} (v : α) (k : α → β) : β := k v
def gd {α : Type} (c : Prop) [Decidable c] (k : Option α) : Option α := if c then k else none
def gi {α : Type} (i : Int32) (n : Nat) (k : Option α) : Option α := if i < 0 ∨ n ≤ i.toNatClampNeg then none else k
def bd {α β : Type} (x : Option α) (k : α → Option β) : Option β := match x with
  | some a => k a
  | none => none
def lp {σ ρ : Type} (f : (σ → Option ρ) → σ → Option ρ) : Nat → σ → Option ρ
  | 0, _ => none
  | n + 1, s => f (lp f n) s
def fz (x : Option Int32) : Option Int32 := bd x fun a => gd (a = 0 ∨ a = 1) (some a)
def fzp {α : Type} (x : Option (Int32 × α)) : Option (Int32 × α) := bd x fun a => gd (a.1 = 0 ∨ a.1 = 1) (some a)
theorem nm_at {α β : Type} {v x : α} {k : α → β} {r : β} (e : x = v) (h : nm v k = r) : k x = r := by subst e; exact h
theorem nq_e {α β : Type} {v : α} {k : α → β} {r : β} (h : nm v k = r) : ∃ x, x = v ∧ k x = r := ⟨v, rfl, h⟩
theorem gd_e {α : Type} {c : Prop} [Decidable c] {k : Option α} {r : α} (h : gd c k = some r) : c ∧ k = some r := by
  unfold gd at h
  by_cases hc : c
  · rw [if_pos hc] at h; exact ⟨hc, h⟩
  · rw [if_neg hc] at h; cases h
theorem gi_e {α : Type} {i : Int32} {n : Nat} {k : Option α} {r : α} (h : gi i n k = some r) : vp_in i n ∧ k = some r := by
  unfold gi at h
  by_cases hc : i < 0 ∨ n ≤ i.toNatClampNeg
  · rw [if_pos hc] at h; cases h
  · rw [if_neg hc] at h; exact ⟨hc, h⟩
theorem bd_e {α β : Type} {x : Option α} {k : α → Option β} {r : β} (h : bd x k = some r) : ∃ a, x = some a ∧ k a = some r := by
  cases x with
  | none => cases h
  | some a => exact ⟨a, rfl, h⟩
theorem if_t {α : Type} {c : Prop} [Decidable c] {a b : α} {r : α} (hc : c) (h : (if c then a else b) = r) : a = r := by rw [if_pos hc] at h; exact h
theorem if_f {α : Type} {c : Prop} [Decidable c] {a b : α} {r : α} (hc : ¬ c) (h : (if c then a else b) = r) : b = r := by rw [if_neg hc] at h; exact h
theorem lp_ind {σ ρ : Type} {f : (σ → Option ρ) → σ → Option ρ} {P : σ → Prop} {r : ρ} {n : Nat} {s : σ} (h : lp f n s = some r)
    (hs : ∀ (nx : σ → Option ρ), (∀ s', nx s' = some r → P s') → ∀ s', f nx s' = some r → P s') : P s := by
  induction n generalizing s with
  | zero => cases h
  | succ n ih => exact hs (lp f n) (fun s' h' => ih h') s h
theorem fz_e {x : Option Int32} {r : Int32} (h : fz x = some r) : (r = 0 ∨ r = 1) ∧ x = some r := by
  unfold fz at h
  obtain ⟨a, h1, h2⟩ := bd_e h
  obtain ⟨h3, h4⟩ := gd_e h2
  cases h4
  exact ⟨h3, h1⟩
theorem fzp_e {α : Type} {x : Option (Int32 × α)} {r : Int32 × α} (h : fzp x = some r) : (r.1 = 0 ∨ r.1 = 1) ∧ x = some r := by
  unfold fzp at h
  obtain ⟨a, h1, h2⟩ := bd_e h
  obtain ⟨h3, h4⟩ := gd_e h2
  cases h4
  exact ⟨h3, h1⟩
