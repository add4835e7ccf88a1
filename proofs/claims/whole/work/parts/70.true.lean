set_option maxRecDepth 100000 in
theorem law_i1 : f_X10_init 0 [.inl (10, new_X10)] = some ((mk S0).take 38) := rfl
set_option maxRecDepth 100000 in
theorem law_i2 : f_X11_init 38 ((mk S0).take 38 ++ [.inl (11, new_X11)]) = some (mk S0) := rfl
theorem mk_sz {N : Nat} {S : mT} (h : Inv N S) : (mk S).length ≤ 600000 ∧ mSz (mk S) ≤ 7302250 := by
  obtain ⟨n, t, p, L, ⟨a1, a2, a3, a4, a5, a6, a7, a8⟩, _⟩ := h
  refine ⟨by rw [mk_len]; omega, ?_⟩
  unfold mk
  simp only [mSz, mSzc, a8, List.length_cons, List.length_nil]
  omega
theorem law_true (X : mXs) (hL : X.1 ≤ 2048) : ∃ w' : mW, f_L_law X [] = some (1, w') ∧ w'.length ≤ 600000 ∧ mSz w' ≤ 7302250 := by
  obtain ⟨N, T, h1, h2⟩ := law_loop X hL (X.1 / 4) 0 mFuel S0 Inv_0 (by omega) (by unfold mFuel; omega)
  refine ⟨mk T, ?_, mk_sz h2⟩
  unfold f_L_law
  rw [bS]
  show Option.bind (f_X10_init 0 [.inl (10, new_X10)]) _ = _
  refine bnd law_i1 ?_
  refine bnd rfl ?_
  show Option.bind (f_X11_init 38 ((mk S0).take 38 ++ [.inl (11, new_X11)])) _ = _
  refine bnd law_i2 ?_
  show Option.bind (f_L_law_L18 X (some 0) (some 38) mFuel 0 (mk S0)) _ = _
  refine bnd h1 ?_
  rfl
