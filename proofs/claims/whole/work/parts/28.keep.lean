theorem op_image {N : Nat} {S : mT} (h : Inv N S) : ∃ r S1 S2, f_X10_image 0 (mk S) = some (r, mk S1) ∧ f_X11_image 38 (mk S1) = some (r, mk S2) ∧ Inv N S2 := by
  obtain ⟨n, t, p, L, ⟨a1, a2, a3, a4, a5, a6, a7⟩, ⟨b1, b2, b3, b4, b5, b6, b7, b8⟩, hP, hK, hN, hI⟩ := id h
  by_cases h0 : n = 0
  · refine ⟨-103, S, S, ?_, ?_, h⟩
    · unfold f_X10_image
      rw [kk_0, bS, s_hasPort a1 b1, bS, if_pos h0, if_pos rfl]
    · unfold f_X11_image
      rw [kk_38, bS, s_lacks a1 b2, bS, if_pos h0, if_neg (by decide)]
  · refine ⟨S.1 9 10, uI (tkf S 9 20) 0 10 1, mvI (rtk (uI (tkf S 9 20) 0 10 1) rNow rKept qNow qKept) 38 9 38 25, ?_, ?_, n, t, p, L, ⟨a1, a2, a3, a4, a5, a6, a7⟩, ⟨b1, b2, b3, b4, b5, b6, b7, b8⟩, hP, hK, hN, ?_⟩
    · unfold f_X10_image
      rw [kk_0, bS, s_hasPort a1 b1, bS, if_neg h0, if_neg (by decide), rR_0_4, bS, rR_0_3, bS, kk_20, bS, s_tkf1, bS, wZ_0_10 _ 1 (Or.inr rfl), bS, rR_0_3, bS, rI_9_10, bS]
      rfl
    · rw [s_imgR (S := uI (tkf S 9 20) 0 10 1) a1 b2 h0]
      show some (S.1 38 7, _) = some (S.1 9 10, _)
      rw [hN.2.2.2.2.2.2.2.1.1]
      rfl
    · refine Or.inl ⟨rfl, b6, NR_copy a1 a2 hN rfl rfl ?_ ?_ ?_ ?_ ?_ ?_ ?_ ?_ ?_ ?_ ?_ ?_ ?_ ?_ ?_ ?_ ?_ rfl rfl rfl rfl rfl rfl rfl rfl rfl⟩
      all_goals exact fun i hi => if_pos hi
theorem op_restore {N : Nat} {S : mT} (h : Inv N S) : ∃ r S1 S2, f_X10_restore 0 (mk S) = some (r, mk S1) ∧ f_X11_restore 38 (mk S1) = some (r, mk S2) ∧ Inv N S2 := by
  obtain ⟨n, t, p, L, ⟨a1, a2, a3, a4, a5, a6, a7⟩, ⟨b1, b2, b3, b4, b5, b6, b7, b8⟩, hP, hK, hN, hI⟩ := id h
  rcases hI with ⟨i1, i2, i3⟩ | ⟨i1, i2⟩
  · refine ⟨S.1 20 10, tkf S 20 9, rtk (tkf S 20 9) rKept rNow qKept qNow, ?_, ?_, n, t, p, L, ⟨a1, a2, a3, a4, a5, a6, a7⟩, ⟨b1, b2, b3, b4, b5, b6, b7, b8⟩, hP, hK, ?_, Or.inl ⟨i1, i2, i3⟩⟩
    · unfold f_X10_restore
      rw [rI_0_10, bS, i1, if_neg (by decide), rR_0_3, bS, rR_0_4, bS, kk_9, bS, s_tkf2, bS, rR_0_3, bS, rI_9_10, bS]
      rfl
    · rw [s_rstR (show (tkf S 20 9).1 38 25 = (tkf S 20 9).1 38 9 from i2.trans b6.symm)]
      show some (S.1 38 28, _) = some (S.1 20 10, _)
      rw [i3.2.2.2.2.2.2.2.1.1]
      rfl
    · refine NR_copy a1 a2 i3 rfl rfl ?_ ?_ ?_ ?_ ?_ ?_ ?_ ?_ ?_ ?_ ?_ ?_ ?_ ?_ ?_ ?_ ?_ rfl rfl rfl rfl rfl rfl rfl rfl rfl
      all_goals exact fun i hi => if_pos hi
  · refine ⟨-103, S, S, ?_, ?_, h⟩
    · unfold f_X10_restore
      rw [rI_0_10, bS, i1, if_pos rfl]
    · unfold f_X11_restore
      rw [rI_38_25, bS, rI_38_9, bS, if_neg]
      rw [b6]
      rcases i2 with i2 | ⟨q, hq, i2⟩
      · rw [i2, eq_T, nT (by omega)]
        show ¬ (-1 : Int) = p
        omega
      · rw [i2, n_eq (by omega) (by omega)]
        omega
