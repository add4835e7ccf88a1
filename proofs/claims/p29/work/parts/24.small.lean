theorem i0 : (0 : Int32).toInt = 0 := rfl
theorem s_hasPort {S : mT} {n : Nat} (hn : n ≤ 6) (e : S.1 0 7 = nI n) : f_X10_hasPort 0 (mk S) = some (if n = 0 then 0 else 1) := by
  simp only [f_X10_hasPort, f_X10_hasPort_J12, rR_0_0, rR_0_1, rR_0_2, rR_0_3, rR_0_4, rR_0_5, rR_0_6, rR_1_0, rR_3_0, rR_3_1, rR_3_2, rR_3_3, rR_9_0, rR_9_1, rR_9_2, rR_9_3, rR_9_4, rR_9_5, rR_9_6, rR_16_0, rR_16_1, rR_16_2, rR_20_0, rR_20_1, rR_20_2, rR_20_3, rR_20_4, rR_20_5, rR_20_6, rR_27_0, rR_27_1, rR_27_2, rR_31_0, rR_31_1, rR_31_2, rR_31_3, rR_31_4, kk_0, kk_1, kk_3, kk_9, kk_16, kk_20, kk_27, kk_31, rI_0_7, rI_0_8, rI_0_9, rI_0_10, rI_1_1, rI_3_4, rI_3_5, rI_3_6, rI_3_7, rI_9_7, rI_9_8, rI_9_9, rI_9_10, rI_9_11, rI_16_3, rI_20_7, rI_20_8, rI_20_9, rI_20_10, rI_20_11, rI_27_3, rI_31_5, rI_31_6, bS, e, le_T, nT (show n < 2 ^ 31 by omega), i0, true_or, or_true, or_false, false_or, if_true, if_false, and_true, true_and, and_false, false_and, not_true_eq_false, not_false_eq_true]
  by_cases h : n = 0
  · rw [if_pos (show (n : Int) ≤ 0 by omega), if_pos h]
  · rw [if_neg (show ¬ (n : Int) ≤ 0 by omega), if_neg h]
theorem s_isCellC {S : mT} {n : Nat} (hn : n ≤ 6) (e : S.1 0 7 = nI n) (x : Int32) : f_X10_isCell 0 x (mk S) = some (if n ≠ 0 ∧ 0 ≤ x.toInt ∧ x.toInt ≤ 35 then 1 else 0) := by
  simp only [f_X10_isCell, f_X10_isCell_J22, f_X10_isCell_J21, s_hasPort hn e, rR_0_0, rR_0_1, rR_0_2, rR_0_3, rR_0_4, rR_0_5, rR_0_6, rR_1_0, rR_3_0, rR_3_1, rR_3_2, rR_3_3, rR_9_0, rR_9_1, rR_9_2, rR_9_3, rR_9_4, rR_9_5, rR_9_6, rR_16_0, rR_16_1, rR_16_2, rR_20_0, rR_20_1, rR_20_2, rR_20_3, rR_20_4, rR_20_5, rR_20_6, rR_27_0, rR_27_1, rR_27_2, rR_31_0, rR_31_1, rR_31_2, rR_31_3, rR_31_4, kk_0, kk_1, kk_3, kk_9, kk_16, kk_20, kk_27, kk_31, rI_0_7, rI_0_8, rI_0_9, rI_0_10, rI_1_1, rI_3_4, rI_3_5, rI_3_6, rI_3_7, rI_9_7, rI_9_8, rI_9_9, rI_9_10, rI_9_11, rI_16_3, rI_20_7, rI_20_8, rI_20_9, rI_20_10, rI_20_11, rI_27_3, rI_31_5, rI_31_6, bS, le_T, lt_T, i0, show (36 : Int32).toInt = 36 from rfl]
  by_cases h : n = 0
  · rw [if_pos h, if_pos rfl, if_neg (show ¬ (n ≠ 0 ∧ 0 ≤ x.toInt ∧ x.toInt ≤ 35) by omega)]; rfl
  · rw [if_neg h, if_neg (show ¬ (1 : Int32) = 0 by decide)]
    by_cases h1 : x.toInt < 0
    · rw [if_pos h1, if_neg (show ¬ (n ≠ 0 ∧ 0 ≤ x.toInt ∧ x.toInt ≤ 35) by omega)]; rfl
    · rw [if_neg h1]
      by_cases h2 : 36 ≤ x.toInt
      · rw [if_pos h2, if_neg (show ¬ (n ≠ 0 ∧ 0 ≤ x.toInt ∧ x.toInt ≤ 35) by omega)]; rfl
      · rw [if_neg h2, if_pos (show (n ≠ 0 ∧ 0 ≤ x.toInt ∧ x.toInt ≤ 35) by omega)]; rfl
theorem s_isSlC {S : mT} {n : Nat} (hn : n ≤ 6) (e : S.1 0 7 = nI n) (x : Int32) : f_X10_isSleeper 0 x (mk S) = some (if 0 ≤ x.toInt ∧ x.toInt < n then 1 else 0) := by
  simp only [f_X10_isSleeper, f_X10_isSleeper_J17, f_X10_isSleeper_J16, rR_0_0, rR_0_1, rR_0_2, rR_0_3, rR_0_4, rR_0_5, rR_0_6, rR_1_0, rR_3_0, rR_3_1, rR_3_2, rR_3_3, rR_9_0, rR_9_1, rR_9_2, rR_9_3, rR_9_4, rR_9_5, rR_9_6, rR_16_0, rR_16_1, rR_16_2, rR_20_0, rR_20_1, rR_20_2, rR_20_3, rR_20_4, rR_20_5, rR_20_6, rR_27_0, rR_27_1, rR_27_2, rR_31_0, rR_31_1, rR_31_2, rR_31_3, rR_31_4, kk_0, kk_1, kk_3, kk_9, kk_16, kk_20, kk_27, kk_31, rI_0_7, rI_0_8, rI_0_9, rI_0_10, rI_1_1, rI_3_4, rI_3_5, rI_3_6, rI_3_7, rI_9_7, rI_9_8, rI_9_9, rI_9_10, rI_9_11, rI_16_3, rI_20_7, rI_20_8, rI_20_9, rI_20_10, rI_20_11, rI_27_3, rI_31_5, rI_31_6, bS, e, le_T, lt_T, nT (show n < 2 ^ 31 by omega), i0]
  by_cases h1 : x.toInt < 0
  · rw [if_pos h1, if_neg (show ¬ (0 ≤ x.toInt ∧ x.toInt < n) by omega)]; rfl
  · rw [if_neg h1]
    by_cases h2 : (n : Int) ≤ x.toInt
    · rw [if_pos h2, if_neg (show ¬ (0 ≤ x.toInt ∧ x.toInt < n) by omega)]; rfl
    · rw [if_neg h2, if_pos (show (0 ≤ x.toInt ∧ x.toInt < n) by omega)]; rfl
theorem nI_m1 {n : Nat} (hn : n ≤ 6) : ((nI n - 1).toInt64).toInt = (n : Int) - 1 := by
  rw [Int32.toInt_toInt64]
  match n, hn with
  | 0, _ => rfl
  | 1, _ => rfl
  | 2, _ => rfl
  | 3, _ => rfl
  | 4, _ => rfl
  | 5, _ => rfl
  | 6, _ => rfl
theorem s_taN {S : mT} {t : Nat} (ht : t ≤ 4) (e : S.1 0 8 = nI t) {x : Int32} (h : ¬ (0 ≤ x.toInt ∧ x.toInt < t)) : f_X10_tosserAt 0 x (mk S) = some none := by
  simp only [f_X10_tosserAt, f_X10_tosserAt_J41, f_X10_tosserAt_J26, f_X10_tosserAt_J25, rR_0_0, rR_0_1, rR_0_2, rR_0_3, rR_0_4, rR_0_5, rR_0_6, rR_1_0, rR_3_0, rR_3_1, rR_3_2, rR_3_3, rR_9_0, rR_9_1, rR_9_2, rR_9_3, rR_9_4, rR_9_5, rR_9_6, rR_16_0, rR_16_1, rR_16_2, rR_20_0, rR_20_1, rR_20_2, rR_20_3, rR_20_4, rR_20_5, rR_20_6, rR_27_0, rR_27_1, rR_27_2, rR_31_0, rR_31_1, rR_31_2, rR_31_3, rR_31_4, kk_0, kk_1, kk_3, kk_9, kk_16, kk_20, kk_27, kk_31, rI_0_7, rI_0_8, rI_0_9, rI_0_10, rI_1_1, rI_3_4, rI_3_5, rI_3_6, rI_3_7, rI_9_7, rI_9_8, rI_9_9, rI_9_10, rI_9_11, rI_16_3, rI_20_7, rI_20_8, rI_20_9, rI_20_10, rI_20_11, rI_27_3, rI_31_5, rI_31_6, bS, e, le_T, lt_T, nT (show t < 2 ^ 31 by omega), i0, rN_8, show (4 : Int32).toInt = 4 from rfl, true_or, or_true, or_false, false_or, if_true, if_false, and_true, true_and, and_false, false_and, not_true_eq_false, not_false_eq_true]
  by_cases h1 : x.toInt < 0
  · rw [if_pos h1]
  · rw [if_neg h1, if_pos (show (t : Int) ≤ x.toInt by omega)]
theorem s_taS {S : mT} {t : Nat} (ht : t ≤ 4) (e : S.1 0 8 = nI t) {j : Nat} (h : j < t) : f_X10_tosserAt 0 (nI j) (mk S) = some (S.2.2.1 j) := by
  simp only [f_X10_tosserAt, f_X10_tosserAt_J41, f_X10_tosserAt_J26, f_X10_tosserAt_J25, rR_0_0, rR_0_1, rR_0_2, rR_0_3, rR_0_4, rR_0_5, rR_0_6, rR_1_0, rR_3_0, rR_3_1, rR_3_2, rR_3_3, rR_9_0, rR_9_1, rR_9_2, rR_9_3, rR_9_4, rR_9_5, rR_9_6, rR_16_0, rR_16_1, rR_16_2, rR_20_0, rR_20_1, rR_20_2, rR_20_3, rR_20_4, rR_20_5, rR_20_6, rR_27_0, rR_27_1, rR_27_2, rR_31_0, rR_31_1, rR_31_2, rR_31_3, rR_31_4, kk_0, kk_1, kk_3, kk_9, kk_16, kk_20, kk_27, kk_31, rI_0_7, rI_0_8, rI_0_9, rI_0_10, rI_1_1, rI_3_4, rI_3_5, rI_3_6, rI_3_7, rI_9_7, rI_9_8, rI_9_9, rI_9_10, rI_9_11, rI_16_3, rI_20_7, rI_20_8, rI_20_9, rI_20_10, rI_20_11, rI_27_3, rI_31_5, rI_31_6, bS, e, le_T, lt_T, nT (show t < 2 ^ 31 by omega), nT (show j < 2 ^ 31 by omega), i0, rN_8, show (4 : Int32).toInt = 4 from rfl, rL_8 S (show j < 4 by omega), true_or, or_true, or_false, false_or, if_true, if_false, and_true, true_and, and_false, false_and, not_true_eq_false, not_false_eq_true]
  rw [if_neg (show ¬ (j : Int) < 0 by omega), if_neg (show ¬ (t : Int) ≤ j by omega), if_neg (show ¬ (4 : Int) ≤ j by omega), if_neg (show ¬ (1 : Int32) = 0 by decide)]
theorem s_isTossC {S : mT} {n t : Nat} (hn : n ≤ 6) (ht : t ≤ 4) (hnt : n = 0 ↔ t = 0) (e : S.1 0 7 = nI n) (e2 : S.1 0 8 = nI t) (hK : KR S t) (x y : Int32) : f_X10_isToss 0 x y (mk S) = some (if (0 ≤ x.toInt ∧ x.toInt < t) ∧ 0 ≤ y.toInt ∧ y.toInt ≤ 35 then 1 else 0) := by
  by_cases h : 0 ≤ x.toInt ∧ x.toInt < t
  · obtain ⟨j, h1, rfl, h3⟩ := nI_of' h.1
    obtain ⟨kd, e0, g1, g2, g3, g4⟩ := hK j (by omega)
    simp only [f_X10_isToss, f_X10_isToss_J21, f_X10_isToss_J20, rR_0_0, rR_0_1, rR_0_2, rR_0_3, rR_0_4, rR_0_5, rR_0_6, rR_1_0, rR_3_0, rR_3_1, rR_3_2, rR_3_3, rR_9_0, rR_9_1, rR_9_2, rR_9_3, rR_9_4, rR_9_5, rR_9_6, rR_16_0, rR_16_1, rR_16_2, rR_20_0, rR_20_1, rR_20_2, rR_20_3, rR_20_4, rR_20_5, rR_20_6, rR_27_0, rR_27_1, rR_27_2, rR_31_0, rR_31_1, rR_31_2, rR_31_3, rR_31_4, kk_0, kk_1, kk_3, kk_9, kk_16, kk_20, kk_27, kk_31, rI_0_7, rI_0_8, rI_0_9, rI_0_10, rI_1_1, rI_3_4, rI_3_5, rI_3_6, rI_3_7, rI_9_7, rI_9_8, rI_9_9, rI_9_10, rI_9_11, rI_16_3, rI_20_7, rI_20_8, rI_20_9, rI_20_10, rI_20_11, rI_27_3, rI_31_5, rI_31_6, bS, s_taS ht e2 (show j < t by omega), g3, oC_s, oC_n, s_isCellC hn e]
    by_cases h5 : 0 ≤ y.toInt ∧ y.toInt ≤ 35
    · rw [if_pos (show n ≠ 0 ∧ 0 ≤ y.toInt ∧ y.toInt ≤ 35 by omega), if_pos (show (0 ≤ (nI j).toInt ∧ (nI j).toInt < t) ∧ 0 ≤ y.toInt ∧ y.toInt ≤ 35 from ⟨h, h5⟩)]; rfl
    · rw [if_neg (show ¬ (n ≠ 0 ∧ 0 ≤ y.toInt ∧ y.toInt ≤ 35) by omega), if_neg (show ¬ ((0 ≤ (nI j).toInt ∧ (nI j).toInt < t) ∧ 0 ≤ y.toInt ∧ y.toInt ≤ 35) by omega)]; rfl
  · simp only [f_X10_isToss, f_X10_isToss_J21, f_X10_isToss_J20, rR_0_0, rR_0_1, rR_0_2, rR_0_3, rR_0_4, rR_0_5, rR_0_6, rR_1_0, rR_3_0, rR_3_1, rR_3_2, rR_3_3, rR_9_0, rR_9_1, rR_9_2, rR_9_3, rR_9_4, rR_9_5, rR_9_6, rR_16_0, rR_16_1, rR_16_2, rR_20_0, rR_20_1, rR_20_2, rR_20_3, rR_20_4, rR_20_5, rR_20_6, rR_27_0, rR_27_1, rR_27_2, rR_31_0, rR_31_1, rR_31_2, rR_31_3, rR_31_4, kk_0, kk_1, kk_3, kk_9, kk_16, kk_20, kk_27, kk_31, rI_0_7, rI_0_8, rI_0_9, rI_0_10, rI_1_1, rI_3_4, rI_3_5, rI_3_6, rI_3_7, rI_9_7, rI_9_8, rI_9_9, rI_9_10, rI_9_11, rI_16_3, rI_20_7, rI_20_8, rI_20_9, rI_20_10, rI_20_11, rI_27_3, rI_31_5, rI_31_6, bS, s_taN ht e2 h, oC_s, oC_n]
    rw [if_neg (show ¬ ((0 ≤ x.toInt ∧ x.toInt < t) ∧ 0 ≤ y.toInt ∧ y.toInt ≤ 35) by omega)]; rfl
theorem s_isTurn (x : Int32) (w : mW) : f_X10_isTurn x w = some (if 0 ≤ x.toInt ∧ x.toInt ≤ 4 then 1 else 0) := by
  simp only [f_X10_isTurn, f_X10_isTurn_J14, f_X10_isTurn_J13, le_T, lt_T, i0, show (5 : Int32).toInt = 5 from rfl]
  by_cases h1 : x.toInt < 0
  · rw [if_pos h1, if_neg (show ¬ (0 ≤ x.toInt ∧ x.toInt ≤ 4) by omega)]; rfl
  · rw [if_neg h1]
    by_cases h2 : 5 ≤ x.toInt
    · rw [if_pos h2, if_neg (show ¬ (0 ≤ x.toInt ∧ x.toInt ≤ 4) by omega)]; rfl
    · rw [if_neg h2, if_pos (show (0 ≤ x.toInt ∧ x.toInt ≤ 4) by omega)]; rfl
theorem s_isCol (x : Int32) (w : mW) : f_X10_isColumn x w = some (if 0 ≤ x.toInt ∧ x.toInt ≤ 5 then 1 else 0) := by
  simp only [f_X10_isColumn, f_X10_isColumn_J15, f_X10_isColumn_J14, le_T, lt_T, i0, show (6 : Int32).toInt = 6 from rfl]
  by_cases h1 : x.toInt < 0
  · rw [if_pos h1, if_neg (show ¬ (0 ≤ x.toInt ∧ x.toInt ≤ 5) by omega)]; rfl
  · rw [if_neg h1]
    by_cases h2 : 6 ≤ x.toInt
    · rw [if_pos h2, if_neg (show ¬ (0 ≤ x.toInt ∧ x.toInt ≤ 5) by omega)]; rfl
    · rw [if_neg h2, if_pos (show (0 ≤ x.toInt ∧ x.toInt ≤ 5) by omega)]; rfl
theorem ite01 {c : Prop} [Decidable c] : ((if c then (1 : Int32) else 0) = 0) = ¬ c := by
  by_cases h : c
  · rw [if_pos h]; exact propext ⟨fun z => absurd z (by decide), fun z => absurd h z⟩
  · rw [if_neg h]; exact propext ⟨fun _ => h, fun _ => rfl⟩
theorem ite10 {c : Prop} [Decidable c] : ((if c then (0 : Int32) else 1) = 0) = c := by
  by_cases h : c
  · rw [if_pos h]; exact propext ⟨fun _ => h, fun _ => rfl⟩
  · rw [if_neg h]; exact propext ⟨fun z => absurd z (by decide), fun z => absurd z h⟩
