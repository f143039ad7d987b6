theorem law_true (L : Nat) (hL : L ≤ 1536) (xs : Nat → Int32) : f_L_law_18 L xs 600 (i_F, i_T) 0 = some 1 := sorry
