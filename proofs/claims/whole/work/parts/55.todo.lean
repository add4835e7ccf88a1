theorem op_digest {N : Nat} {S : mT} (h : Inv N S) : ∃ r S1 S2, f_X10_digest 0 (mk S) = some (r, mk S1) ∧ f_X11_digest 38 (mk S1) = some (r, mk S2) ∧ Inv N S2 := sorry
