theorem law_true (X : mXs) (hL : X.1 ≤ 2048) : ∃ w' : mW, f_L_law X [] = some (1, w') ∧ w'.length ≤ 600000 ∧ mSz w' ≤ 7302250 := sorry
