/-! THINKS AND FORGETS -/
/-- what changes beside the core when a block at o is written or read -/
def Fr (o : Nat) (G G' : St) : Prop := (∀ q, q < o ∨ o + 51 ≤ q → G' 12 q = G 12 q) ∧ (∀ i, i ≠ 12 → i ≠ 16 → G' i = G i) ∧ ∀ k, k ≠ 8 → k ≠ 9 → G' 16 k = G 16 k
theorem Fr.rf {o : Nat} {G : St} : Fr o G G := ⟨fun _ _ => rfl, fun _ _ _ => rfl, fun _ _ _ => rfl⟩
theorem Fr.tr {o : Nat} {G G' G'' : St} (h1 : Fr o G G') (h2 : Fr o G' G'') : Fr o G G'' := ⟨fun q h => (h2.1 q h).trans (h1.1 q h), fun i a b => (h2.2.1 i a b).trans (h1.2.1 i a b), fun k a b => (h2.2.2 k a b).trans (h1.2.2 k a b)⟩
theorem Fr.su {o k : Nat} {G : St} {v : Int32} (hk : k = 8 ∨ k = 9) : Fr o G (su G 16 k v) := by
  refine ⟨fun q _ => su_ne (by omega), fun i _ h => ?_, fun j h8 h9 => su_ne (by omega)⟩
  funext j
  exact su_ne (by omega)
theorem kw_K {G : St} {c : G2} {f : Nat → Nat} {o x n : Nat} (hK : Kp G o x c) (hf : ∀ i, i < n → f i = sp c (x + i)) : Kp (kwJ G f (o + x) n) o (x + n) c := by
  intro j hj
  unfold kwJ
  by_cases h : x ≤ j
  · rw [if_pos ⟨rfl, by omega, by omega⟩, hf _ (by omega), show x + (o + j - (o + x)) = j by omega]
  · rw [if_neg (by omega), if_neg (by omega)]
    exact hK j (by omega)
theorem kw_F {G : St} {f : Nat → Nat} {o p n : Nat} (h : o ≤ p) (h2 : p + n ≤ o + 51) : Fr o G (kwJ G f p n) := by
  refine ⟨fun q hq => ?_, fun i a b => ?_, fun k a b => kw_16 b⟩
  · unfold kwJ
    rw [if_neg (by omega), if_neg (by omega)]
  · funext k
    unfold kwJ
    rw [if_neg (by omega), if_neg (by omega)]
theorem passOne_k {c : G2} {G : St} {o x : Nat} (h8 : G 16 8 = nI 1) (h9 : G 16 9 = nI o) (ho : o < 153) : f_X5_passOne (hs c G) (nI x) = some (nI x, hs c (kwJ G (fun _ => x) o 1)) := by
  have e := kw_s (G := G) (f := fun _ => x) (o := o) (j := 0)
  rw [kw_0 h9, Nat.add_zero] at e
  have r8 : hs c G 16 8 = nI 1 := by rw [hs_16 (by omega), h8]
  have r9 : hs c G 16 9 = nI o := by rw [hs_16 (by omega), h9]
  have u1 : su (hs c G) 12 o (nI x) = hs c (su G 12 o (nI x)) := su_hso (by decide) (by decide)
  have r9' : hs c (su G 12 o (nI x)) 16 9 = nI o := by rw [hs_16 (by omega), su_ne (by omega), h9]
  have u2 : su (hs c (su G 12 o (nI x))) 16 9 (nI (o + 1)) = hs c (kwJ G (fun _ => x) o 1) := by rw [su_hs16o (by decide), e]
  unfold f_X5_passOne
  simp (disch := omega) only [gi_nI, tn_nI, hs_1, hs_2, hs_3, hs_4, hs_5, hs_6, hs_7, hs_s, hs_m, hs_h, hs_t, lit_nI, nI_add, nI_mul, nI_eq, nI_leI, nI_ltI, nm_i, bd_s, r8, r9, u1, r9', u2, ↓reduceIte]
  simp
theorem kw_8 {G : St} {f : Nat → Nat} {o j : Nat} (h : G 16 8 = nI 1) : kwJ G f o j 16 8 = nI 1 := by rw [kw_16 (by decide), h]
theorem keepAll {c : G2} {G : St} {b : Nat} (hb : b ≤ 2) : ∃ G', f_X5_passesAll (hs c G) (nI b) (nI 1) = some (hs c G') ∧ Kp G' (51 * b) 51 c ∧ Fr (51 * b) G G' := by
  obtain ⟨o, ho⟩ : ∃ o, o = 51 * b := ⟨_, rfl⟩
  have ho2 : o ≤ 102 := by omega
  unfold f_X5_passesAll
  have u1 : su (hs c G) 16 9 (nI (51 * b)) = hs c (su G 16 9 (nI o)) := by rw [su_hs16o (by decide), ho]
  have u2 : su (hs c (su G 16 9 (nI o))) 16 8 (nI 1) = hs c (su (su G 16 9 (nI o)) 16 8 (nI 1)) := su_hs16o (by decide)
  obtain ⟨G0, hG0⟩ : ∃ G0, G0 = su (su G 16 9 (nI o)) 16 8 (nI 1) := ⟨_, rfl⟩
  rw [← hG0] at u2
  have f0 : Fr o G G0 := by rw [hG0]; exact (Fr.su (Or.inr rfl)).tr (Fr.su (Or.inl rfl))
  have a0 : G0 16 8 = nI 1 := by rw [hG0, su_at]
  have b0 : G0 16 9 = nI o := by rw [hG0, su_ne (by omega), su_at]
  have k0 : Kp G0 o 0 c := fun j hj => absurd hj (Nat.not_lt_zero _)
  clear hG0
  have p1 := keep_1 (c := c) a0 b0 (by omega)
  obtain ⟨H1, hH1⟩ : ∃ H, H = kwJ G0 (c 1) o 5 := ⟨_, rfl⟩
  have kk1 : Kp H1 o 5 c := by rw [hH1]; exact kw_K (x := 0) (n := 5) k0 (fun i hi => by unfold sp; rw [if_pos (by omega)]; congr 1; omega)
  have ff1 : Fr o G H1 := by rw [hH1]; exact f0.tr (kw_F (by omega) (by omega))
  have aa1 : H1 16 8 = nI 1 := by rw [hH1]; exact kw_8 a0
  have bb1 : H1 16 9 = nI (o + 5) := by rw [hH1]; exact kw_9
  rw [← hH1] at p1; clear hH1
  have p2 := keep_2 (c := c) aa1 bb1 (by omega)
  obtain ⟨H2, hH2⟩ : ∃ H, H = kwJ H1 (c 2) (o + 5) 5 := ⟨_, rfl⟩
  have kk2 : Kp H2 o 10 c := by rw [hH2]; exact kw_K (x := 5) (n := 5) kk1 (fun i hi => by unfold sp; rw [if_neg (by omega), if_pos (by omega)]; congr 1; omega)
  have ff2 : Fr o G H2 := by rw [hH2]; exact ff1.tr (kw_F (by omega) (by omega))
  have aa2 : H2 16 8 = nI 1 := by rw [hH2]; exact kw_8 aa1
  have bb2 : H2 16 9 = nI (o + 10) := by rw [hH2]; exact kw_9
  rw [← hH2] at p2; clear hH2
  have p3 := keep_3 (c := c) aa2 bb2 (by omega)
  obtain ⟨H3, hH3⟩ : ∃ H, H = kwJ H2 (c 3) (o + 10) 5 := ⟨_, rfl⟩
  have kk3 : Kp H3 o 15 c := by rw [hH3]; exact kw_K (x := 10) (n := 5) kk2 (fun i hi => by unfold sp; rw [if_neg (by omega), if_neg (by omega), if_pos (by omega)]; congr 1; omega)
  have ff3 : Fr o G H3 := by rw [hH3]; exact ff2.tr (kw_F (by omega) (by omega))
  have aa3 : H3 16 8 = nI 1 := by rw [hH3]; exact kw_8 aa2
  have bb3 : H3 16 9 = nI (o + 15) := by rw [hH3]; exact kw_9
  rw [← hH3] at p3; clear hH3
  have p4 := keep_4 (c := c) aa3 bb3 (by omega)
  obtain ⟨H4, hH4⟩ : ∃ H, H = kwJ H3 (c 4) (o + 15) 8 := ⟨_, rfl⟩
  have kk4 : Kp H4 o 23 c := by rw [hH4]; exact kw_K (x := 15) (n := 8) kk3 (fun i hi => by unfold sp; rw [if_neg (by omega), if_neg (by omega), if_neg (by omega), if_pos (by omega)]; congr 1; omega)
  have ff4 : Fr o G H4 := by rw [hH4]; exact ff3.tr (kw_F (by omega) (by omega))
  have aa4 : H4 16 8 = nI 1 := by rw [hH4]; exact kw_8 aa3
  have bb4 : H4 16 9 = nI (o + 23) := by rw [hH4]; exact kw_9
  rw [← hH4] at p4; clear hH4
  have p5 := keep_5 (c := c) aa4 bb4 (by omega)
  obtain ⟨H5, hH5⟩ : ∃ H, H = kwJ H4 (c 5) (o + 23) 8 := ⟨_, rfl⟩
  have kk5 : Kp H5 o 31 c := by rw [hH5]; exact kw_K (x := 23) (n := 8) kk4 (fun i hi => by unfold sp; rw [if_neg (by omega), if_neg (by omega), if_neg (by omega), if_neg (by omega), if_pos (by omega)]; congr 1; omega)
  have ff5 : Fr o G H5 := by rw [hH5]; exact ff4.tr (kw_F (by omega) (by omega))
  have aa5 : H5 16 8 = nI 1 := by rw [hH5]; exact kw_8 aa4
  have bb5 : H5 16 9 = nI (o + 31) := by rw [hH5]; exact kw_9
  rw [← hH5] at p5; clear hH5
  have p6 := keep_6 (c := c) aa5 bb5 (by omega)
  obtain ⟨H6, hH6⟩ : ∃ H, H = kwJ H5 (c 6) (o + 31) 8 := ⟨_, rfl⟩
  have kk6 : Kp H6 o 39 c := by rw [hH6]; exact kw_K (x := 31) (n := 8) kk5 (fun i hi => by unfold sp; rw [if_neg (by omega), if_neg (by omega), if_neg (by omega), if_neg (by omega), if_neg (by omega), if_pos (by omega)]; congr 1; omega)
  have ff6 : Fr o G H6 := by rw [hH6]; exact ff5.tr (kw_F (by omega) (by omega))
  have aa6 : H6 16 8 = nI 1 := by rw [hH6]; exact kw_8 aa5
  have bb6 : H6 16 9 = nI (o + 39) := by rw [hH6]; exact kw_9
  rw [← hH6] at p6; clear hH6
  have p7 := keep_7 (c := c) aa6 bb6 (by omega)
  obtain ⟨H7, hH7⟩ : ∃ H, H = kwJ H6 (c 7) (o + 39) 8 := ⟨_, rfl⟩
  have kk7 : Kp H7 o 47 c := by rw [hH7]; exact kw_K (x := 39) (n := 8) kk6 (fun i hi => by unfold sp; rw [if_neg (by omega), if_neg (by omega), if_neg (by omega), if_neg (by omega), if_neg (by omega), if_neg (by omega), if_pos (by omega)]; congr 1; omega)
  have ff7 : Fr o G H7 := by rw [hH7]; exact ff6.tr (kw_F (by omega) (by omega))
  have aa7 : H7 16 8 = nI 1 := by rw [hH7]; exact kw_8 aa6
  have bb7 : H7 16 9 = nI (o + 47) := by rw [hH7]; exact kw_9
  rw [← hH7] at p7; clear hH7
  have p8 := passOne_k (c := c) (x := c 16 0) aa7 bb7 (by omega)
  obtain ⟨H8, hH8⟩ : ∃ H, H = kwJ H7 (fun _ => c 16 0) (o + 47) 1 := ⟨_, rfl⟩
  have kk8 : Kp H8 o 48 c := by rw [hH8]; exact kw_K (x := 47) (n := 1) kk7 (fun i hi => by unfold sp; rw [if_neg (by omega), if_neg (by omega), if_neg (by omega), if_neg (by omega), if_neg (by omega), if_neg (by omega), if_neg (by omega)]; congr 1; omega)
  have ff8 : Fr o G H8 := by rw [hH8]; exact ff7.tr (kw_F (by omega) (by omega))
  have aa8 : H8 16 8 = nI 1 := by rw [hH8]; exact kw_8 aa7
  have bb8 : H8 16 9 = nI (o + 48) := by rw [hH8]; exact kw_9
  rw [← hH8] at p8; clear hH8
  have s8 : su (hs c H8) 16 0 (nI (c 16 0)) = hs c H8 := by rw [su_hs16 (by decide), gu_same]
  have p9 := passOne_k (c := c) (x := c 16 1) aa8 bb8 (by omega)
  obtain ⟨H9, hH9⟩ : ∃ H, H = kwJ H8 (fun _ => c 16 1) (o + 48) 1 := ⟨_, rfl⟩
  have kk9 : Kp H9 o 49 c := by rw [hH9]; exact kw_K (x := 48) (n := 1) kk8 (fun i hi => by unfold sp; rw [if_neg (by omega), if_neg (by omega), if_neg (by omega), if_neg (by omega), if_neg (by omega), if_neg (by omega), if_neg (by omega)]; congr 1; omega)
  have ff9 : Fr o G H9 := by rw [hH9]; exact ff8.tr (kw_F (by omega) (by omega))
  have aa9 : H9 16 8 = nI 1 := by rw [hH9]; exact kw_8 aa8
  have bb9 : H9 16 9 = nI (o + 49) := by rw [hH9]; exact kw_9
  rw [← hH9] at p9; clear hH9
  have s9 : su (hs c H9) 16 1 (nI (c 16 1)) = hs c H9 := by rw [su_hs16 (by decide), gu_same]
  have p10 := passOne_k (c := c) (x := c 16 2) aa9 bb9 (by omega)
  obtain ⟨H10, hH10⟩ : ∃ H, H = kwJ H9 (fun _ => c 16 2) (o + 49) 1 := ⟨_, rfl⟩
  have kk10 : Kp H10 o 50 c := by rw [hH10]; exact kw_K (x := 49) (n := 1) kk9 (fun i hi => by unfold sp; rw [if_neg (by omega), if_neg (by omega), if_neg (by omega), if_neg (by omega), if_neg (by omega), if_neg (by omega), if_neg (by omega)]; congr 1; omega)
  have ff10 : Fr o G H10 := by rw [hH10]; exact ff9.tr (kw_F (by omega) (by omega))
  have aa10 : H10 16 8 = nI 1 := by rw [hH10]; exact kw_8 aa9
  have bb10 : H10 16 9 = nI (o + 50) := by rw [hH10]; exact kw_9
  rw [← hH10] at p10; clear hH10
  have s10 : su (hs c H10) 16 2 (nI (c 16 2)) = hs c H10 := by rw [su_hs16 (by decide), gu_same]
  have p11 := passOne_k (c := c) (x := c 16 3) aa10 bb10 (by omega)
  obtain ⟨H11, hH11⟩ : ∃ H, H = kwJ H10 (fun _ => c 16 3) (o + 50) 1 := ⟨_, rfl⟩
  have kk11 : Kp H11 o 51 c := by rw [hH11]; exact kw_K (x := 50) (n := 1) kk10 (fun i hi => by unfold sp; rw [if_neg (by omega), if_neg (by omega), if_neg (by omega), if_neg (by omega), if_neg (by omega), if_neg (by omega), if_neg (by omega)]; congr 1; omega)
  have ff11 : Fr o G H11 := by rw [hH11]; exact ff10.tr (kw_F (by omega) (by omega))
  have aa11 : H11 16 8 = nI 1 := by rw [hH11]; exact kw_8 aa10
  have bb11 : H11 16 9 = nI (o + 51) := by rw [hH11]; exact kw_9
  rw [← hH11] at p11; clear hH11
  have s11 : su (hs c H11) 16 3 (nI (c 16 3)) = hs c H11 := by rw [su_hs16 (by decide), gu_same]
  refine ⟨H11, ?_, by rw [← ho]; exact kk11, by rw [← ho]; exact ff11⟩
  simp (disch := omega) only [gi_nI, tn_nI, hs_1, hs_2, hs_3, hs_4, hs_5, hs_6, hs_7, hs_s, hs_m, hs_h, hs_t, lit_nI, nI_add, nI_mul, nI_eq, nI_leI, nI_ltI, nm_i, bd_s, u1, u2, p1, p2, p3, p4, p5, p6, p7, p8, s8, p9, s9, p10, s10, p11, s11, ↓reduceIte]
  exact gd_t (Or.inr trivial)
theorem passOne_p {d : G2} {G : St} {o x : Nat} {v : Int32} (h8 : G 16 8 = nI 0) (h9 : G 16 9 = nI o) (ho : o < 153) (hx : G 12 o = nI x) : f_X5_passOne (hs d G) v = some (nI x, hs d (su G 16 9 (nI (o + 1)))) := by
  have r8 : hs d G 16 8 = nI 0 := by rw [hs_16 (by omega), h8]
  have r9 : hs d G 16 9 = nI o := by rw [hs_16 (by omega), h9]
  have r12 : hs d G 12 o = nI x := by rw [hs_o (by decide) (by decide), hx]
  have u2 : su (hs d G) 16 9 (nI (o + 1)) = hs d (su G 16 9 (nI (o + 1))) := su_hs16o (by decide)
  unfold f_X5_passOne
  simp (disch := omega) only [gi_nI, tn_nI, hs_1, hs_2, hs_3, hs_4, hs_5, hs_6, hs_7, hs_s, hs_m, hs_h, hs_t, lit_nI, nI_add, nI_mul, nI_eq, nI_leI, nI_ltI, nm_i, bd_s, r8, r9, r12, u2, ↓reduceIte]
def pB (c d : G2) : G2 := swp (swp (swp (swp (swp (swp (swp d 1 (fun _ => True) (c 1) 5) 2 (fun _ => True) (c 2) 5) 3 (fun _ => True) (c 3) 5) 4 (fun _ => True) (c 4) 8) 5 (fun _ => True) (c 5) 8) 6 (fun _ => True) (c 6) 8) 7 (fun _ => True) (c 7) 8
theorem pB_e {c d : G2} (hc : Zc c) (hd : Zc d) : gu (gu (gu (gu (pB c d) 16 0 (c 16 0)) 16 1 (c 16 1)) 16 2 (c 16 2)) 16 3 (c 16 3) = c := by
  rw [cp_0]
  funext i k
  by_cases hv : vd i k
  · unfold vd at hv
    unfold cp pB swp
    rcases hv with ⟨h1, h2, h3⟩ | ⟨h1, h2, h3⟩ | ⟨h1, h2⟩
    · rcases (show i = 1 ∨ i = 2 ∨ i = 3 by omega) with rfl | rfl | rfl <;> simp [h3]
    · rcases (show i = 4 ∨ i = 5 ∨ i = 6 ∨ i = 7 by omega) with rfl | rfl | rfl | rfl <;> simp [h3]
    · subst h1; simp [h2]
  · rw [hc i k hv]
    have e := hd i k hv
    unfold vd at hv
    unfold cp pB swp
    rw [if_neg (by omega), if_neg (by omega), if_neg (by omega), if_neg (by omega), if_neg (by omega), if_neg (by omega), if_neg (by omega), if_neg (by omega), e]
theorem putAll {c d : G2} {G : St} {b : Nat} (hb : b ≤ 2) (hc : Zc c) (hd : Zc d) (hK : Kp G (51 * b) 51 c) : ∃ G', f_X5_passesAll (hs d G) (nI b) (nI 0) = some (hs c G') ∧ Fr (51 * b) G G' ∧ G' 12 = G 12 := by
  obtain ⟨o, ho⟩ : ∃ o, o = 51 * b := ⟨_, rfl⟩
  have ho2 : o ≤ 102 := by omega
  rw [← ho] at hK
  unfold f_X5_passesAll
  have u1 : su (hs d G) 16 9 (nI (51 * b)) = hs d (su G 16 9 (nI o)) := by rw [su_hs16o (by decide), ho]
  have u2 : su (hs d (su G 16 9 (nI o))) 16 8 (nI 0) = hs d (su (su G 16 9 (nI o)) 16 8 (nI 0)) := su_hs16o (by decide)
  obtain ⟨H0, hH0⟩ : ∃ H, H = su (su G 16 9 (nI o)) 16 8 (nI 0) := ⟨_, rfl⟩
  rw [← hH0] at u2
  have ff0 : Fr o G H0 := by rw [hH0]; exact (Fr.su (Or.inr rfl)).tr (Fr.su (Or.inl rfl))
  have tt0 : H0 12 = G 12 := by rw [hH0]; rfl
  have aa0 : H0 16 8 = nI 0 := by rw [hH0, su_at]
  have bb0 : H0 16 9 = nI o := by rw [hH0, su_ne (by omega), su_at]
  clear hH0
  have p1 := put_1 (d := d) (f := c 1) aa0 bb0 (by omega) (fun j hj => by rw [tt0, show o + j = o + (0 + j) by omega, hK (0 + j) (by omega)]; unfold sp; rw [if_pos (by omega)]; congr 2; omega)
  obtain ⟨H1, hH1⟩ : ∃ H, H = su H0 16 9 (nI (o + 5)) := ⟨_, rfl⟩
  have ff1 : Fr o G H1 := by rw [hH1]; exact ff0.tr (Fr.su (Or.inr rfl))
  have tt1 : H1 12 = G 12 := by rw [hH1]; exact tt0
  have aa1 : H1 16 8 = nI 0 := by rw [hH1, su_ne (by omega), aa0]
  have bb1 : H1 16 9 = nI (o + 5) := by rw [hH1, su_at]
  rw [← hH1] at p1; clear hH1
  have p2 := put_2 (d := (swp d 1 (fun _ => True) (c 1) 5)) (f := c 2) aa1 bb1 (by omega) (fun j hj => by rw [tt1, show o + 5 + j = o + (5 + j) by omega, hK (5 + j) (by omega)]; unfold sp; rw [if_neg (by omega), if_pos (by omega)]; congr 2; omega)
  obtain ⟨H2, hH2⟩ : ∃ H, H = su H1 16 9 (nI (o + 5 + 5)) := ⟨_, rfl⟩
  have ff2 : Fr o G H2 := by rw [hH2]; exact ff1.tr (Fr.su (Or.inr rfl))
  have tt2 : H2 12 = G 12 := by rw [hH2]; exact tt1
  have aa2 : H2 16 8 = nI 0 := by rw [hH2, su_ne (by omega), aa1]
  have bb2 : H2 16 9 = nI (o + 10) := by rw [hH2, su_at]
  rw [← hH2] at p2; clear hH2
  have p3 := put_3 (d := (swp (swp d 1 (fun _ => True) (c 1) 5) 2 (fun _ => True) (c 2) 5)) (f := c 3) aa2 bb2 (by omega) (fun j hj => by rw [tt2, show o + 10 + j = o + (10 + j) by omega, hK (10 + j) (by omega)]; unfold sp; rw [if_neg (by omega), if_neg (by omega), if_pos (by omega)]; congr 2; omega)
  obtain ⟨H3, hH3⟩ : ∃ H, H = su H2 16 9 (nI (o + 10 + 5)) := ⟨_, rfl⟩
  have ff3 : Fr o G H3 := by rw [hH3]; exact ff2.tr (Fr.su (Or.inr rfl))
  have tt3 : H3 12 = G 12 := by rw [hH3]; exact tt2
  have aa3 : H3 16 8 = nI 0 := by rw [hH3, su_ne (by omega), aa2]
  have bb3 : H3 16 9 = nI (o + 15) := by rw [hH3, su_at]
  rw [← hH3] at p3; clear hH3
  have p4 := put_4 (d := (swp (swp (swp d 1 (fun _ => True) (c 1) 5) 2 (fun _ => True) (c 2) 5) 3 (fun _ => True) (c 3) 5)) (f := c 4) aa3 bb3 (by omega) (fun j hj => by rw [tt3, show o + 15 + j = o + (15 + j) by omega, hK (15 + j) (by omega)]; unfold sp; rw [if_neg (by omega), if_neg (by omega), if_neg (by omega), if_pos (by omega)]; congr 2; omega)
  obtain ⟨H4, hH4⟩ : ∃ H, H = su H3 16 9 (nI (o + 15 + 8)) := ⟨_, rfl⟩
  have ff4 : Fr o G H4 := by rw [hH4]; exact ff3.tr (Fr.su (Or.inr rfl))
  have tt4 : H4 12 = G 12 := by rw [hH4]; exact tt3
  have aa4 : H4 16 8 = nI 0 := by rw [hH4, su_ne (by omega), aa3]
  have bb4 : H4 16 9 = nI (o + 23) := by rw [hH4, su_at]
  rw [← hH4] at p4; clear hH4
  have p5 := put_5 (d := (swp (swp (swp (swp d 1 (fun _ => True) (c 1) 5) 2 (fun _ => True) (c 2) 5) 3 (fun _ => True) (c 3) 5) 4 (fun _ => True) (c 4) 8)) (f := c 5) aa4 bb4 (by omega) (fun j hj => by rw [tt4, show o + 23 + j = o + (23 + j) by omega, hK (23 + j) (by omega)]; unfold sp; rw [if_neg (by omega), if_neg (by omega), if_neg (by omega), if_neg (by omega), if_pos (by omega)]; congr 2; omega)
  obtain ⟨H5, hH5⟩ : ∃ H, H = su H4 16 9 (nI (o + 23 + 8)) := ⟨_, rfl⟩
  have ff5 : Fr o G H5 := by rw [hH5]; exact ff4.tr (Fr.su (Or.inr rfl))
  have tt5 : H5 12 = G 12 := by rw [hH5]; exact tt4
  have aa5 : H5 16 8 = nI 0 := by rw [hH5, su_ne (by omega), aa4]
  have bb5 : H5 16 9 = nI (o + 31) := by rw [hH5, su_at]
  rw [← hH5] at p5; clear hH5
  have p6 := put_6 (d := (swp (swp (swp (swp (swp d 1 (fun _ => True) (c 1) 5) 2 (fun _ => True) (c 2) 5) 3 (fun _ => True) (c 3) 5) 4 (fun _ => True) (c 4) 8) 5 (fun _ => True) (c 5) 8)) (f := c 6) aa5 bb5 (by omega) (fun j hj => by rw [tt5, show o + 31 + j = o + (31 + j) by omega, hK (31 + j) (by omega)]; unfold sp; rw [if_neg (by omega), if_neg (by omega), if_neg (by omega), if_neg (by omega), if_neg (by omega), if_pos (by omega)]; congr 2; omega)
  obtain ⟨H6, hH6⟩ : ∃ H, H = su H5 16 9 (nI (o + 31 + 8)) := ⟨_, rfl⟩
  have ff6 : Fr o G H6 := by rw [hH6]; exact ff5.tr (Fr.su (Or.inr rfl))
  have tt6 : H6 12 = G 12 := by rw [hH6]; exact tt5
  have aa6 : H6 16 8 = nI 0 := by rw [hH6, su_ne (by omega), aa5]
  have bb6 : H6 16 9 = nI (o + 39) := by rw [hH6, su_at]
  rw [← hH6] at p6; clear hH6
  have p7 := put_7 (d := (swp (swp (swp (swp (swp (swp d 1 (fun _ => True) (c 1) 5) 2 (fun _ => True) (c 2) 5) 3 (fun _ => True) (c 3) 5) 4 (fun _ => True) (c 4) 8) 5 (fun _ => True) (c 5) 8) 6 (fun _ => True) (c 6) 8)) (f := c 7) aa6 bb6 (by omega) (fun j hj => by rw [tt6, show o + 39 + j = o + (39 + j) by omega, hK (39 + j) (by omega)]; unfold sp; rw [if_neg (by omega), if_neg (by omega), if_neg (by omega), if_neg (by omega), if_neg (by omega), if_neg (by omega), if_pos (by omega)]; congr 2; omega)
  obtain ⟨H7, hH7⟩ : ∃ H, H = su H6 16 9 (nI (o + 39 + 8)) := ⟨_, rfl⟩
  have ff7 : Fr o G H7 := by rw [hH7]; exact ff6.tr (Fr.su (Or.inr rfl))
  have tt7 : H7 12 = G 12 := by rw [hH7]; exact tt6
  have aa7 : H7 16 8 = nI 0 := by rw [hH7, su_ne (by omega), aa6]
  have bb7 : H7 16 9 = nI (o + 47) := by rw [hH7, su_at]
  rw [← hH7] at p7; clear hH7
  have p8 := fun v => passOne_p (d := (pB c d)) (x := c 16 0) (v := v) aa7 bb7 (by omega) (by rw [tt7, hK 47 (by omega)]; unfold sp; rw [if_neg (by omega), if_neg (by omega), if_neg (by omega), if_neg (by omega), if_neg (by omega), if_neg (by omega), if_neg (by omega)])
  obtain ⟨H8, hH8⟩ : ∃ H, H = su H7 16 9 (nI (o + 47 + 1)) := ⟨_, rfl⟩
  have ff8 : Fr o G H8 := by rw [hH8]; exact ff7.tr (Fr.su (Or.inr rfl))
  have tt8 : H8 12 = G 12 := by rw [hH8]; exact tt7
  have aa8 : H8 16 8 = nI 0 := by rw [hH8, su_ne (by omega), aa7]
  have bb8 : H8 16 9 = nI (o + 48) := by rw [hH8, su_at]
  rw [← hH8] at p8; clear hH8
  have s8 : su (hs (pB c d) H8) 16 0 (nI (c 16 0)) = hs (gu (pB c d) 16 0 (c 16 0)) H8 := su_hs16 (by decide)
  have p9 := fun v => passOne_p (d := (gu (pB c d) 16 0 (c 16 0))) (x := c 16 1) (v := v) aa8 bb8 (by omega) (by rw [tt8, hK 48 (by omega)]; unfold sp; rw [if_neg (by omega), if_neg (by omega), if_neg (by omega), if_neg (by omega), if_neg (by omega), if_neg (by omega), if_neg (by omega)])
  obtain ⟨H9, hH9⟩ : ∃ H, H = su H8 16 9 (nI (o + 48 + 1)) := ⟨_, rfl⟩
  have ff9 : Fr o G H9 := by rw [hH9]; exact ff8.tr (Fr.su (Or.inr rfl))
  have tt9 : H9 12 = G 12 := by rw [hH9]; exact tt8
  have aa9 : H9 16 8 = nI 0 := by rw [hH9, su_ne (by omega), aa8]
  have bb9 : H9 16 9 = nI (o + 49) := by rw [hH9, su_at]
  rw [← hH9] at p9; clear hH9
  have s9 : su (hs (gu (pB c d) 16 0 (c 16 0)) H9) 16 1 (nI (c 16 1)) = hs (gu (gu (pB c d) 16 0 (c 16 0)) 16 1 (c 16 1)) H9 := su_hs16 (by decide)
  have p10 := fun v => passOne_p (d := (gu (gu (pB c d) 16 0 (c 16 0)) 16 1 (c 16 1))) (x := c 16 2) (v := v) aa9 bb9 (by omega) (by rw [tt9, hK 49 (by omega)]; unfold sp; rw [if_neg (by omega), if_neg (by omega), if_neg (by omega), if_neg (by omega), if_neg (by omega), if_neg (by omega), if_neg (by omega)])
  obtain ⟨H10, hH10⟩ : ∃ H, H = su H9 16 9 (nI (o + 49 + 1)) := ⟨_, rfl⟩
  have ff10 : Fr o G H10 := by rw [hH10]; exact ff9.tr (Fr.su (Or.inr rfl))
  have tt10 : H10 12 = G 12 := by rw [hH10]; exact tt9
  have aa10 : H10 16 8 = nI 0 := by rw [hH10, su_ne (by omega), aa9]
  have bb10 : H10 16 9 = nI (o + 50) := by rw [hH10, su_at]
  rw [← hH10] at p10; clear hH10
  have s10 : su (hs (gu (gu (pB c d) 16 0 (c 16 0)) 16 1 (c 16 1)) H10) 16 2 (nI (c 16 2)) = hs (gu (gu (gu (pB c d) 16 0 (c 16 0)) 16 1 (c 16 1)) 16 2 (c 16 2)) H10 := su_hs16 (by decide)
  have p11 := fun v => passOne_p (d := (gu (gu (gu (pB c d) 16 0 (c 16 0)) 16 1 (c 16 1)) 16 2 (c 16 2))) (x := c 16 3) (v := v) aa10 bb10 (by omega) (by rw [tt10, hK 50 (by omega)]; unfold sp; rw [if_neg (by omega), if_neg (by omega), if_neg (by omega), if_neg (by omega), if_neg (by omega), if_neg (by omega), if_neg (by omega)])
  obtain ⟨H11, hH11⟩ : ∃ H, H = su H10 16 9 (nI (o + 50 + 1)) := ⟨_, rfl⟩
  have ff11 : Fr o G H11 := by rw [hH11]; exact ff10.tr (Fr.su (Or.inr rfl))
  have tt11 : H11 12 = G 12 := by rw [hH11]; exact tt10
  have aa11 : H11 16 8 = nI 0 := by rw [hH11, su_ne (by omega), aa10]
  have bb11 : H11 16 9 = nI (o + 51) := by rw [hH11, su_at]
  rw [← hH11] at p11; clear hH11
  have s11 : su (hs (gu (gu (gu (pB c d) 16 0 (c 16 0)) 16 1 (c 16 1)) 16 2 (c 16 2)) H11) 16 3 (nI (c 16 3)) = hs (gu (gu (gu (gu (pB c d) 16 0 (c 16 0)) 16 1 (c 16 1)) 16 2 (c 16 2)) 16 3 (c 16 3)) H11 := su_hs16 (by decide)
  refine ⟨H11, ?_, by rw [← ho]; exact ff11, tt11⟩
  change f_X5_passes_a8 _ = some (hs (pB c d) H7) at p7
  simp (disch := omega) only [gi_nI, tn_nI, hs_1, hs_2, hs_3, hs_4, hs_5, hs_6, hs_7, hs_s, hs_m, hs_h, hs_t, lit_nI, nI_add, nI_mul, nI_eq, nI_leI, nI_ltI, nm_i, bd_s, u1, u2, p1, p2, p3, p4, p5, p6, p7, p8, s8, p9, s9, p10, s10, p11, s11, pB_e hc hd, ↓reduceIte]
  exact gd_t (Or.inl trivial)
