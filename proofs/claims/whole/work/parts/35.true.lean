theorem law_true {xs : Nat → Int32} {L : Nat} (hL : L ≤ 2560) : f_law xs L = some 1 := sorry
