theorem n_add (a b : Nat) : nI a + nI b = nI (a + b) := (Int32.ofNat_add a b).symm
theorem n_mul (a b : Nat) : nI a * nI b = nI (a * b) := (Int32.ofNat_mul a b).symm
theorem n_3 (c : Nat) : (3 : Int32) * nI c = nI (3 * c) := n_mul 3 c
theorem n_2 (c : Nat) : nI c + (2 : Int32) = nI (c + 2) := n_add c 2
theorem s_colm {α : Type} (v : Int32) (A B : α) : (if v = -1 then A else if ¬ (0 ≤ v.toInt ∧ v.toInt ≤ 5) then B else A) = if -1 ≤ v.toInt ∧ v.toInt ≤ 5 then A else B := by
  by_cases h : v = -1
  · rw [if_pos h, h, if_pos (show -1 ≤ (-1 : Int32).toInt ∧ (-1 : Int32).toInt ≤ 5 by decide)]
  · rw [if_neg h]
    have h2 : v.toInt ≠ -1 := fun e => h ((eq_T _ _).mpr e)
    by_cases h3 : 0 ≤ v.toInt ∧ v.toInt ≤ 5
    · rw [if_neg (show ¬ ¬ (0 ≤ v.toInt ∧ v.toInt ≤ 5) by omega), if_pos (show -1 ≤ v.toInt ∧ v.toInt ≤ 5 by omega)]
    · rw [if_pos h3, if_neg (show ¬ (-1 ≤ v.toInt ∧ v.toInt ≤ 5) by omega)]
theorem uA_s {S : mT} {a : Nat} {f : Nat → Int32} : (uA S a f).2.1 a = f := if_pos rfl
theorem uA_u {S : mT} {a : Nat} {f g : Nat → Int32} : uA (uA S a f) a g = uA S a g := by
  refine Prod.ext rfl (Prod.ext (funext fun a' => ?_) rfl)
  show (if a' = a then g else if a' = a then f else S.2.1 a') = (if a' = a then g else S.2.1 a')
  by_cases h : a' = a
  · rw [if_pos h, if_pos h]
  · rw [if_neg h, if_neg h, if_neg h]
theorem uI_s {S : mT} {o k : Nat} {x : Int32} : (uI S o k x).1 o k = x := if_pos ⟨rfl, rfl⟩
theorem uI_u {S : mT} {o k : Nat} {x y : Int32} : uI (uI S o k x) o k y = uI S o k y := by
  refine Prod.ext (funext fun o' => funext fun k' => ?_) rfl
  show (if o' = o ∧ k' = k then y else if o' = o ∧ k' = k then x else S.1 o' k') = (if o' = o ∧ k' = k then y else S.1 o' k')
  by_cases h : o' = o ∧ k' = k
  · rw [if_pos h, if_pos h]
  · rw [if_neg h, if_neg h, if_neg h]
theorem r_see {S : mT} {t j c : Nat} (ht : t ≤ 4) (e : S.1 38 4 = nI t) (hj : j < t) {u v : Int32} (hu : 0 ≤ u.toInt ∧ u.toInt ≤ 5) (hv : -1 ≤ v.toInt ∧ v.toInt ≤ 5) (e2 : S.1 38 22 = nI c) (hc : c < 6) : f_X11_see 38 (nI j) u v (mk S) = some (nI (c + 1), mk (uI (uA S 51 (upd (upd (upd (S.2.1 51) (3 * c) (nI j)) (3 * c + 1) u) (3 * c + 2) v)) 38 22 (nI (c + 1)))) := by
  have h1 : (nI j).toInt = j := nT (by omega)
  simp only [f_X11_see, f_X11_see_J37, rR_0_0, rR_0_1, rR_0_2, rR_0_3, rR_0_4, rR_0_5, rR_0_6, rR_1_0, rR_3_0, rR_3_1, rR_3_2, rR_3_3, rR_9_0, rR_9_1, rR_9_2, rR_9_3, rR_9_4, rR_9_5, rR_9_6, rR_16_0, rR_16_1, rR_16_2, rR_20_0, rR_20_1, rR_20_2, rR_20_3, rR_20_4, rR_20_5, rR_20_6, rR_27_0, rR_27_1, rR_27_2, rR_31_0, rR_31_1, rR_31_2, rR_31_3, rR_31_4, rR_38_0, rR_38_10, rR_38_11, rR_38_12, rR_38_13, rR_38_14, rR_38_15, rR_38_16, rR_38_17, rR_38_18, rR_38_19, rR_38_20, rR_38_23, rR_38_31, rR_38_32, rR_38_33, rR_38_34, rR_38_35, rR_38_36, rR_38_37, rR_38_38, kk_0, kk_1, kk_3, kk_9, kk_16, kk_20, kk_27, kk_31, kk_38, rI_0_7, rI_0_8, rI_0_9, rI_0_10, rI_1_1, rI_3_4, rI_3_5, rI_3_6, rI_3_7, rI_9_7, rI_9_8, rI_9_9, rI_9_10, rI_9_11, rI_16_3, rI_20_7, rI_20_8, rI_20_9, rI_20_10, rI_20_11, rI_27_3, rI_31_5, rI_31_6, rI_38_1, rI_38_2, rI_38_3, rI_38_4, rI_38_5, rI_38_6, rI_38_7, rI_38_8, rI_38_9, rI_38_21, rI_38_22, rI_38_24, rI_38_25, rI_38_26, rI_38_27, rI_38_28, rI_38_29, rI_38_30, rL_38_39, bS, s_isToR ht e, s_in u 0 5 0 5 rfl rfl, s_in v (-1) 5 (-1) 5 rfl rfl, ite01, if_neg (show ¬ ¬ (0 ≤ (nI j).toInt ∧ (nI j).toInt < t) by omega), if_neg (show ¬ ¬ (0 ≤ u.toInt ∧ u.toInt ≤ 5) by omega), if_neg (show ¬ ¬ (-1 ≤ v.toInt ∧ v.toInt ≤ 5) by omega), e2, n_3, nI_1, n_2]
  rw [if_neg (show ¬ nI c = (6 : Int32) by rw [eq_T, nT (by omega)]; show ¬ (c : Int) = 6; omega), aS_51 _ _ (show 3 * c < 18 by omega)]
  simp only [rR_0_0, rR_0_1, rR_0_2, rR_0_3, rR_0_4, rR_0_5, rR_0_6, rR_1_0, rR_3_0, rR_3_1, rR_3_2, rR_3_3, rR_9_0, rR_9_1, rR_9_2, rR_9_3, rR_9_4, rR_9_5, rR_9_6, rR_16_0, rR_16_1, rR_16_2, rR_20_0, rR_20_1, rR_20_2, rR_20_3, rR_20_4, rR_20_5, rR_20_6, rR_27_0, rR_27_1, rR_27_2, rR_31_0, rR_31_1, rR_31_2, rR_31_3, rR_31_4, rR_38_0, rR_38_10, rR_38_11, rR_38_12, rR_38_13, rR_38_14, rR_38_15, rR_38_16, rR_38_17, rR_38_18, rR_38_19, rR_38_20, rR_38_23, rR_38_31, rR_38_32, rR_38_33, rR_38_34, rR_38_35, rR_38_36, rR_38_37, rR_38_38, kk_0, kk_1, kk_3, kk_9, kk_16, kk_20, kk_27, kk_31, kk_38, rI_0_7, rI_0_8, rI_0_9, rI_0_10, rI_1_1, rI_3_4, rI_3_5, rI_3_6, rI_3_7, rI_9_7, rI_9_8, rI_9_9, rI_9_10, rI_9_11, rI_16_3, rI_20_7, rI_20_8, rI_20_9, rI_20_10, rI_20_11, rI_27_3, rI_31_5, rI_31_6, rI_38_1, rI_38_2, rI_38_3, rI_38_4, rI_38_5, rI_38_6, rI_38_7, rI_38_8, rI_38_9, rI_38_21, rI_38_22, rI_38_24, rI_38_25, rI_38_26, rI_38_27, rI_38_28, rI_38_29, rI_38_30, rL_38_39, bS, uA_1, uA_s, uA_u, e2, n_3, nI_1, n_2, aS_51 _ _ (show 3 * c + 1 < 18 by omega), aS_51 _ _ (show 3 * c + 2 < 18 by omega), wI_0_7, wI_0_8, wI_0_9, wI_1_1, wI_3_4, wI_3_5, wI_3_6, wI_3_7, wI_9_7, wI_9_8, wI_9_9, wI_9_10, wI_9_11, wI_16_3, wI_20_7, wI_20_8, wI_20_9, wI_20_10, wI_20_11, wI_27_3, wI_31_5, wI_31_6, wI_38_1, wI_38_2, wI_38_3, wI_38_4, wI_38_5, wI_38_6, wI_38_7, wI_38_8, wI_38_9, wI_38_21, wI_38_22, wI_38_24, wI_38_25, wI_38_26, wI_38_27, wI_38_28, wI_38_29, wI_38_30, wL_38_39, uI_s]
-- 21 see
theorem op_see {N : Nat} {S : mT} (h : Inv N S) (x u v : Int32) : ∃ r S1 S2, f_X10_see 0 x u v (mk S) = some (r, mk S1) ∧ f_X11_see 38 x u v (mk S1) = some (r, mk S2) ∧ Inv N S2 := by
  obtain ⟨n, t, p, L, ⟨a1, a2, a3, a4, a5, a6, a7⟩, ⟨b1, b2, b3, b4, b5, b6, b7, b8⟩, hP, hK, hN, hI⟩ := id h
  by_cases hx : 0 ≤ x.toInt ∧ x.toInt < t
  · obtain ⟨j, h1, rfl, h3⟩ := nI_of' hx.1
    have hj : j < t := by omega
    obtain ⟨kd, e0, g1, g2, g3, g4⟩ := hK j hj
    have hne : ¬ ¬ (0 ≤ (nI j).toInt ∧ (nI j).toInt < t) := by omega
    simp only [f_X10_see, f_X10_see_J33, f_X10_see_J30, rR_0_0, rR_0_1, rR_0_2, rR_0_3, rR_0_4, rR_0_5, rR_0_6, rR_1_0, rR_3_0, rR_3_1, rR_3_2, rR_3_3, rR_9_0, rR_9_1, rR_9_2, rR_9_3, rR_9_4, rR_9_5, rR_9_6, rR_16_0, rR_16_1, rR_16_2, rR_20_0, rR_20_1, rR_20_2, rR_20_3, rR_20_4, rR_20_5, rR_20_6, rR_27_0, rR_27_1, rR_27_2, rR_31_0, rR_31_1, rR_31_2, rR_31_3, rR_31_4, rR_38_0, rR_38_10, rR_38_11, rR_38_12, rR_38_13, rR_38_14, rR_38_15, rR_38_16, rR_38_17, rR_38_18, rR_38_19, rR_38_20, rR_38_23, rR_38_31, rR_38_32, rR_38_33, rR_38_34, rR_38_35, rR_38_36, rR_38_37, rR_38_38, kk_0, kk_1, kk_3, kk_9, kk_16, kk_20, kk_27, kk_31, kk_38, rI_0_7, rI_0_8, rI_0_9, rI_0_10, rI_1_1, rI_3_4, rI_3_5, rI_3_6, rI_3_7, rI_9_7, rI_9_8, rI_9_9, rI_9_10, rI_9_11, rI_16_3, rI_20_7, rI_20_8, rI_20_9, rI_20_10, rI_20_11, rI_27_3, rI_31_5, rI_31_6, rI_38_1, rI_38_2, rI_38_3, rI_38_4, rI_38_5, rI_38_6, rI_38_7, rI_38_8, rI_38_9, rI_38_21, rI_38_22, rI_38_24, rI_38_25, rI_38_26, rI_38_27, rI_38_28, rI_38_29, rI_38_30, rL_38_39, bS, s_taS a2 b3 hj, g3, oC_s, oC_n, s_isCol, ite01, s_colm]
    by_cases h5 : 0 ≤ u.toInt ∧ u.toInt ≤ 5
    · by_cases h6 : -1 ≤ v.toInt ∧ v.toInt ≤ 5
      · obtain ⟨⟨c, c1, c2, c3, c4⟩, g2', g3', g4', g5', g6'⟩ := hN
        have c2' : S.1 16 3 = nI c := c2
        have c3' : S.1 38 22 = nI c := c3
        rw [if_neg (show ¬ ¬ (0 ≤ u.toInt ∧ u.toInt ≤ 5) by omega), if_pos h6, c2']
        by_cases hc : c = 6
        · subst hc
          rw [if_neg (show ¬ nI 6 < (6 : Int32) by decide)]
          refine ⟨_, S, S, rfl, ?_, h⟩
          simp only [f_X11_see, f_X11_see_J37, rR_0_0, rR_0_1, rR_0_2, rR_0_3, rR_0_4, rR_0_5, rR_0_6, rR_1_0, rR_3_0, rR_3_1, rR_3_2, rR_3_3, rR_9_0, rR_9_1, rR_9_2, rR_9_3, rR_9_4, rR_9_5, rR_9_6, rR_16_0, rR_16_1, rR_16_2, rR_20_0, rR_20_1, rR_20_2, rR_20_3, rR_20_4, rR_20_5, rR_20_6, rR_27_0, rR_27_1, rR_27_2, rR_31_0, rR_31_1, rR_31_2, rR_31_3, rR_31_4, rR_38_0, rR_38_10, rR_38_11, rR_38_12, rR_38_13, rR_38_14, rR_38_15, rR_38_16, rR_38_17, rR_38_18, rR_38_19, rR_38_20, rR_38_23, rR_38_31, rR_38_32, rR_38_33, rR_38_34, rR_38_35, rR_38_36, rR_38_37, rR_38_38, kk_0, kk_1, kk_3, kk_9, kk_16, kk_20, kk_27, kk_31, kk_38, rI_0_7, rI_0_8, rI_0_9, rI_0_10, rI_1_1, rI_3_4, rI_3_5, rI_3_6, rI_3_7, rI_9_7, rI_9_8, rI_9_9, rI_9_10, rI_9_11, rI_16_3, rI_20_7, rI_20_8, rI_20_9, rI_20_10, rI_20_11, rI_27_3, rI_31_5, rI_31_6, rI_38_1, rI_38_2, rI_38_3, rI_38_4, rI_38_5, rI_38_6, rI_38_7, rI_38_8, rI_38_9, rI_38_21, rI_38_22, rI_38_24, rI_38_25, rI_38_26, rI_38_27, rI_38_28, rI_38_29, rI_38_30, rL_38_39, bS, s_isToR a2 b4, s_in u 0 5 0 5 rfl rfl, s_in v (-1) 5 (-1) 5 rfl rfl, ite01, if_neg hne, if_neg (show ¬ ¬ (0 ≤ u.toInt ∧ u.toInt ≤ 5) by omega), if_neg (show ¬ ¬ (-1 ≤ v.toInt ∧ v.toInt ≤ 5) by omega), c3']
          rfl
        · have hc6 : c < 6 := by omega
          rw [if_pos (show nI c < (6 : Int32) by rw [lt_T, nT (by omega)]; show (c : Int) < 6; omega)]
          refine ⟨nI (c + 1), uI (uA (uA (uA S 17 (upd (S.2.1 17) c (nI j))) 18 (upd (S.2.1 18) c u)) 19 (upd (S.2.1 19) c v)) 16 3 (nI (c + 1)), uI (uA (uI (uA (uA (uA S 17 (upd (S.2.1 17) c (nI j))) 18 (upd (S.2.1 18) c u)) 19 (upd (S.2.1 19) c v)) 16 3 (nI (c + 1))) 51 (upd (upd (upd (S.2.1 51) (3 * c) (nI j)) (3 * c + 1) u) (3 * c + 2) v)) 38 22 (nI (c + 1)), ?_, ?_, n, t, p, L, ⟨a1, a2, a3, a4, a5, a6, a7⟩, ⟨b1, b2, b3, b4, b5, b6, b7, b8⟩, hP, hK, ⟨⟨c + 1, by omega, rfl, rfl, ?_⟩, g2', g3', g4', g5', g6'⟩, hI⟩
          · simp only [f_X6_add, rR_0_0, rR_0_1, rR_0_2, rR_0_3, rR_0_4, rR_0_5, rR_0_6, rR_1_0, rR_3_0, rR_3_1, rR_3_2, rR_3_3, rR_9_0, rR_9_1, rR_9_2, rR_9_3, rR_9_4, rR_9_5, rR_9_6, rR_16_0, rR_16_1, rR_16_2, rR_20_0, rR_20_1, rR_20_2, rR_20_3, rR_20_4, rR_20_5, rR_20_6, rR_27_0, rR_27_1, rR_27_2, rR_31_0, rR_31_1, rR_31_2, rR_31_3, rR_31_4, rR_38_0, rR_38_10, rR_38_11, rR_38_12, rR_38_13, rR_38_14, rR_38_15, rR_38_16, rR_38_17, rR_38_18, rR_38_19, rR_38_20, rR_38_23, rR_38_31, rR_38_32, rR_38_33, rR_38_34, rR_38_35, rR_38_36, rR_38_37, rR_38_38, kk_0, kk_1, kk_3, kk_9, kk_16, kk_20, kk_27, kk_31, kk_38, rI_0_7, rI_0_8, rI_0_9, rI_0_10, rI_1_1, rI_3_4, rI_3_5, rI_3_6, rI_3_7, rI_9_7, rI_9_8, rI_9_9, rI_9_10, rI_9_11, rI_16_3, rI_20_7, rI_20_8, rI_20_9, rI_20_10, rI_20_11, rI_27_3, rI_31_5, rI_31_6, rI_38_1, rI_38_2, rI_38_3, rI_38_4, rI_38_5, rI_38_6, rI_38_7, rI_38_8, rI_38_9, rI_38_21, rI_38_22, rI_38_24, rI_38_25, rI_38_26, rI_38_27, rI_38_28, rI_38_29, rI_38_30, rL_38_39, bS, wI_0_7, wI_0_8, wI_0_9, wI_1_1, wI_3_4, wI_3_5, wI_3_6, wI_3_7, wI_9_7, wI_9_8, wI_9_9, wI_9_10, wI_9_11, wI_16_3, wI_20_7, wI_20_8, wI_20_9, wI_20_10, wI_20_11, wI_27_3, wI_31_5, wI_31_6, wI_38_1, wI_38_2, wI_38_3, wI_38_4, wI_38_5, wI_38_6, wI_38_7, wI_38_8, wI_38_9, wI_38_21, wI_38_22, wI_38_24, wI_38_25, wI_38_26, wI_38_27, wI_38_28, wI_38_29, wI_38_30, wL_38_39, uI_1, uI_2, uA_1, uA_2, uA_3, uQ_1, uQ_2, uQ_3, uQ_4, uL_1, uL_2, uL_3, uL_4, uL_5, c2', s_put (aG_17 S) (by decide) hc6, aW_17]
            rw [s_put (aG_18 _) (by decide) hc6]
            simp only [aW_18, rR_0_0, rR_0_1, rR_0_2, rR_0_3, rR_0_4, rR_0_5, rR_0_6, rR_1_0, rR_3_0, rR_3_1, rR_3_2, rR_3_3, rR_9_0, rR_9_1, rR_9_2, rR_9_3, rR_9_4, rR_9_5, rR_9_6, rR_16_0, rR_16_1, rR_16_2, rR_20_0, rR_20_1, rR_20_2, rR_20_3, rR_20_4, rR_20_5, rR_20_6, rR_27_0, rR_27_1, rR_27_2, rR_31_0, rR_31_1, rR_31_2, rR_31_3, rR_31_4, rR_38_0, rR_38_10, rR_38_11, rR_38_12, rR_38_13, rR_38_14, rR_38_15, rR_38_16, rR_38_17, rR_38_18, rR_38_19, rR_38_20, rR_38_23, rR_38_31, rR_38_32, rR_38_33, rR_38_34, rR_38_35, rR_38_36, rR_38_37, rR_38_38, kk_0, kk_1, kk_3, kk_9, kk_16, kk_20, kk_27, kk_31, kk_38, rI_0_7, rI_0_8, rI_0_9, rI_0_10, rI_1_1, rI_3_4, rI_3_5, rI_3_6, rI_3_7, rI_9_7, rI_9_8, rI_9_9, rI_9_10, rI_9_11, rI_16_3, rI_20_7, rI_20_8, rI_20_9, rI_20_10, rI_20_11, rI_27_3, rI_31_5, rI_31_6, rI_38_1, rI_38_2, rI_38_3, rI_38_4, rI_38_5, rI_38_6, rI_38_7, rI_38_8, rI_38_9, rI_38_21, rI_38_22, rI_38_24, rI_38_25, rI_38_26, rI_38_27, rI_38_28, rI_38_29, rI_38_30, rL_38_39, bS, uI_1, uI_2, uA_1, uA_2, uA_3, uQ_1, uQ_2, uQ_3, uQ_4, uL_1, uL_2, uL_3, uL_4, uL_5, c2']
            rw [s_put (aG_19 _) (by decide) hc6]
            simp only [aW_19, rR_0_0, rR_0_1, rR_0_2, rR_0_3, rR_0_4, rR_0_5, rR_0_6, rR_1_0, rR_3_0, rR_3_1, rR_3_2, rR_3_3, rR_9_0, rR_9_1, rR_9_2, rR_9_3, rR_9_4, rR_9_5, rR_9_6, rR_16_0, rR_16_1, rR_16_2, rR_20_0, rR_20_1, rR_20_2, rR_20_3, rR_20_4, rR_20_5, rR_20_6, rR_27_0, rR_27_1, rR_27_2, rR_31_0, rR_31_1, rR_31_2, rR_31_3, rR_31_4, rR_38_0, rR_38_10, rR_38_11, rR_38_12, rR_38_13, rR_38_14, rR_38_15, rR_38_16, rR_38_17, rR_38_18, rR_38_19, rR_38_20, rR_38_23, rR_38_31, rR_38_32, rR_38_33, rR_38_34, rR_38_35, rR_38_36, rR_38_37, rR_38_38, kk_0, kk_1, kk_3, kk_9, kk_16, kk_20, kk_27, kk_31, kk_38, rI_0_7, rI_0_8, rI_0_9, rI_0_10, rI_1_1, rI_3_4, rI_3_5, rI_3_6, rI_3_7, rI_9_7, rI_9_8, rI_9_9, rI_9_10, rI_9_11, rI_16_3, rI_20_7, rI_20_8, rI_20_9, rI_20_10, rI_20_11, rI_27_3, rI_31_5, rI_31_6, rI_38_1, rI_38_2, rI_38_3, rI_38_4, rI_38_5, rI_38_6, rI_38_7, rI_38_8, rI_38_9, rI_38_21, rI_38_22, rI_38_24, rI_38_25, rI_38_26, rI_38_27, rI_38_28, rI_38_29, rI_38_30, rL_38_39, bS, wI_0_7, wI_0_8, wI_0_9, wI_1_1, wI_3_4, wI_3_5, wI_3_6, wI_3_7, wI_9_7, wI_9_8, wI_9_9, wI_9_10, wI_9_11, wI_16_3, wI_20_7, wI_20_8, wI_20_9, wI_20_10, wI_20_11, wI_27_3, wI_31_5, wI_31_6, wI_38_1, wI_38_2, wI_38_3, wI_38_4, wI_38_5, wI_38_6, wI_38_7, wI_38_8, wI_38_9, wI_38_21, wI_38_22, wI_38_24, wI_38_25, wI_38_26, wI_38_27, wI_38_28, wI_38_29, wI_38_30, wL_38_39, uI_1, uI_2, uA_1, uA_2, uA_3, uQ_1, uQ_2, uQ_3, uQ_4, uL_1, uL_2, uL_3, uL_4, uL_5, c2', nI_1]
            rfl
          · exact r_see (S := uI (uA (uA (uA S 17 (upd (S.2.1 17) c (nI j))) 18 (upd (S.2.1 18) c u)) 19 (upd (S.2.1 19) c v)) 16 3 (nI (c + 1))) a2 b4 hj h5 h6 c3' hc6
          · intro i hi
            show upd (S.2.1 17) c (nI j) i = upd (upd (upd (S.2.1 51) (3 * c) (nI j)) (3 * c + 1) u) (3 * c + 2) v (3 * i) ∧ upd (S.2.1 18) c u i = upd (upd (upd (S.2.1 51) (3 * c) (nI j)) (3 * c + 1) u) (3 * c + 2) v (3 * i + 1) ∧ upd (S.2.1 19) c v i = upd (upd (upd (S.2.1 51) (3 * c) (nI j)) (3 * c + 1) u) (3 * c + 2) v (3 * i + 2)
            simp only [upd_at]
            by_cases hic : i = c
            · subst hic
              refine ⟨?_, ?_, ?_⟩
              · rw [if_pos rfl, if_neg (by omega), if_neg (by omega), if_pos rfl]
              · rw [if_pos rfl, if_neg (by omega), if_pos rfl]
              · rw [if_pos rfl, if_pos rfl]
            · obtain ⟨d1, d2, d3⟩ := c4 i (by omega)
              refine ⟨?_, ?_, ?_⟩
              · rw [if_neg hic, if_neg (by omega), if_neg (by omega), if_neg (by omega)]; exact d1
              · rw [if_neg hic, if_neg (by omega), if_neg (by omega), if_neg (by omega)]; exact d2
              · rw [if_neg hic, if_neg (by omega), if_neg (by omega), if_neg (by omega)]; exact d3
      · rw [if_neg (show ¬ ¬ (0 ≤ u.toInt ∧ u.toInt ≤ 5) by omega), if_neg h6]
        refine ⟨_, S, S, rfl, ?_, h⟩
        simp only [f_X11_see, f_X11_see_J37, rR_0_0, rR_0_1, rR_0_2, rR_0_3, rR_0_4, rR_0_5, rR_0_6, rR_1_0, rR_3_0, rR_3_1, rR_3_2, rR_3_3, rR_9_0, rR_9_1, rR_9_2, rR_9_3, rR_9_4, rR_9_5, rR_9_6, rR_16_0, rR_16_1, rR_16_2, rR_20_0, rR_20_1, rR_20_2, rR_20_3, rR_20_4, rR_20_5, rR_20_6, rR_27_0, rR_27_1, rR_27_2, rR_31_0, rR_31_1, rR_31_2, rR_31_3, rR_31_4, rR_38_0, rR_38_10, rR_38_11, rR_38_12, rR_38_13, rR_38_14, rR_38_15, rR_38_16, rR_38_17, rR_38_18, rR_38_19, rR_38_20, rR_38_23, rR_38_31, rR_38_32, rR_38_33, rR_38_34, rR_38_35, rR_38_36, rR_38_37, rR_38_38, kk_0, kk_1, kk_3, kk_9, kk_16, kk_20, kk_27, kk_31, kk_38, rI_0_7, rI_0_8, rI_0_9, rI_0_10, rI_1_1, rI_3_4, rI_3_5, rI_3_6, rI_3_7, rI_9_7, rI_9_8, rI_9_9, rI_9_10, rI_9_11, rI_16_3, rI_20_7, rI_20_8, rI_20_9, rI_20_10, rI_20_11, rI_27_3, rI_31_5, rI_31_6, rI_38_1, rI_38_2, rI_38_3, rI_38_4, rI_38_5, rI_38_6, rI_38_7, rI_38_8, rI_38_9, rI_38_21, rI_38_22, rI_38_24, rI_38_25, rI_38_26, rI_38_27, rI_38_28, rI_38_29, rI_38_30, rL_38_39, bS, s_isToR a2 b4, s_in u 0 5 0 5 rfl rfl, s_in v (-1) 5 (-1) 5 rfl rfl, ite01, if_neg hne, if_neg (show ¬ ¬ (0 ≤ u.toInt ∧ u.toInt ≤ 5) by omega), if_pos h6]
    · rw [if_pos h5]
      refine ⟨_, S, S, rfl, ?_, h⟩
      simp only [f_X11_see, f_X11_see_J37, rR_0_0, rR_0_1, rR_0_2, rR_0_3, rR_0_4, rR_0_5, rR_0_6, rR_1_0, rR_3_0, rR_3_1, rR_3_2, rR_3_3, rR_9_0, rR_9_1, rR_9_2, rR_9_3, rR_9_4, rR_9_5, rR_9_6, rR_16_0, rR_16_1, rR_16_2, rR_20_0, rR_20_1, rR_20_2, rR_20_3, rR_20_4, rR_20_5, rR_20_6, rR_27_0, rR_27_1, rR_27_2, rR_31_0, rR_31_1, rR_31_2, rR_31_3, rR_31_4, rR_38_0, rR_38_10, rR_38_11, rR_38_12, rR_38_13, rR_38_14, rR_38_15, rR_38_16, rR_38_17, rR_38_18, rR_38_19, rR_38_20, rR_38_23, rR_38_31, rR_38_32, rR_38_33, rR_38_34, rR_38_35, rR_38_36, rR_38_37, rR_38_38, kk_0, kk_1, kk_3, kk_9, kk_16, kk_20, kk_27, kk_31, kk_38, rI_0_7, rI_0_8, rI_0_9, rI_0_10, rI_1_1, rI_3_4, rI_3_5, rI_3_6, rI_3_7, rI_9_7, rI_9_8, rI_9_9, rI_9_10, rI_9_11, rI_16_3, rI_20_7, rI_20_8, rI_20_9, rI_20_10, rI_20_11, rI_27_3, rI_31_5, rI_31_6, rI_38_1, rI_38_2, rI_38_3, rI_38_4, rI_38_5, rI_38_6, rI_38_7, rI_38_8, rI_38_9, rI_38_21, rI_38_22, rI_38_24, rI_38_25, rI_38_26, rI_38_27, rI_38_28, rI_38_29, rI_38_30, rL_38_39, bS, s_isToR a2 b4, s_in u 0 5 0 5 rfl rfl, ite01, if_neg hne, if_pos h5]
  · simp only [f_X10_see, f_X10_see_J33, f_X10_see_J30, rR_0_0, rR_0_1, rR_0_2, rR_0_3, rR_0_4, rR_0_5, rR_0_6, rR_1_0, rR_3_0, rR_3_1, rR_3_2, rR_3_3, rR_9_0, rR_9_1, rR_9_2, rR_9_3, rR_9_4, rR_9_5, rR_9_6, rR_16_0, rR_16_1, rR_16_2, rR_20_0, rR_20_1, rR_20_2, rR_20_3, rR_20_4, rR_20_5, rR_20_6, rR_27_0, rR_27_1, rR_27_2, rR_31_0, rR_31_1, rR_31_2, rR_31_3, rR_31_4, rR_38_0, rR_38_10, rR_38_11, rR_38_12, rR_38_13, rR_38_14, rR_38_15, rR_38_16, rR_38_17, rR_38_18, rR_38_19, rR_38_20, rR_38_23, rR_38_31, rR_38_32, rR_38_33, rR_38_34, rR_38_35, rR_38_36, rR_38_37, rR_38_38, kk_0, kk_1, kk_3, kk_9, kk_16, kk_20, kk_27, kk_31, kk_38, rI_0_7, rI_0_8, rI_0_9, rI_0_10, rI_1_1, rI_3_4, rI_3_5, rI_3_6, rI_3_7, rI_9_7, rI_9_8, rI_9_9, rI_9_10, rI_9_11, rI_16_3, rI_20_7, rI_20_8, rI_20_9, rI_20_10, rI_20_11, rI_27_3, rI_31_5, rI_31_6, rI_38_1, rI_38_2, rI_38_3, rI_38_4, rI_38_5, rI_38_6, rI_38_7, rI_38_8, rI_38_9, rI_38_21, rI_38_22, rI_38_24, rI_38_25, rI_38_26, rI_38_27, rI_38_28, rI_38_29, rI_38_30, rL_38_39, bS, s_taN a2 b3 hx, oC_s, oC_n]
    refine ⟨_, S, S, rfl, ?_, h⟩
    simp only [f_X11_see, f_X11_see_J37, rR_0_0, rR_0_1, rR_0_2, rR_0_3, rR_0_4, rR_0_5, rR_0_6, rR_1_0, rR_3_0, rR_3_1, rR_3_2, rR_3_3, rR_9_0, rR_9_1, rR_9_2, rR_9_3, rR_9_4, rR_9_5, rR_9_6, rR_16_0, rR_16_1, rR_16_2, rR_20_0, rR_20_1, rR_20_2, rR_20_3, rR_20_4, rR_20_5, rR_20_6, rR_27_0, rR_27_1, rR_27_2, rR_31_0, rR_31_1, rR_31_2, rR_31_3, rR_31_4, rR_38_0, rR_38_10, rR_38_11, rR_38_12, rR_38_13, rR_38_14, rR_38_15, rR_38_16, rR_38_17, rR_38_18, rR_38_19, rR_38_20, rR_38_23, rR_38_31, rR_38_32, rR_38_33, rR_38_34, rR_38_35, rR_38_36, rR_38_37, rR_38_38, kk_0, kk_1, kk_3, kk_9, kk_16, kk_20, kk_27, kk_31, kk_38, rI_0_7, rI_0_8, rI_0_9, rI_0_10, rI_1_1, rI_3_4, rI_3_5, rI_3_6, rI_3_7, rI_9_7, rI_9_8, rI_9_9, rI_9_10, rI_9_11, rI_16_3, rI_20_7, rI_20_8, rI_20_9, rI_20_10, rI_20_11, rI_27_3, rI_31_5, rI_31_6, rI_38_1, rI_38_2, rI_38_3, rI_38_4, rI_38_5, rI_38_6, rI_38_7, rI_38_8, rI_38_9, rI_38_21, rI_38_22, rI_38_24, rI_38_25, rI_38_26, rI_38_27, rI_38_28, rI_38_29, rI_38_30, rL_38_39, bS, s_isToR a2 b4, ite01, if_pos hx]
-- 6 move
def anyB (p : Nat → Bool) : Nat → Bool
  | 0 => false
  | n + 1 => anyB p n || p n
theorem anyB_iff {p : Nat → Bool} : ∀ {n : Nat}, anyB p n = true ↔ ∃ k, k < n ∧ p k = true
  | 0 => ⟨fun h => absurd h Bool.false_ne_true, fun ⟨k, hk, _⟩ => absurd hk (by omega)⟩
  | n + 1 => by
    rw [anyB, Bool.or_eq_true, anyB_iff]
    refine ⟨fun h => ?_, fun ⟨k, hk, hp⟩ => ?_⟩
    · rcases h with ⟨k, hk, hp⟩ | h
      · exact ⟨k, by omega, hp⟩
      · exact ⟨n, by omega, h⟩
    · by_cases hkn : k = n
      · subst hkn; exact Or.inr hp
      · exact Or.inl ⟨k, by omega, hp⟩
theorem fst_any {β : Type} (p : Nat → Bool) (n : Nat) (a z : β) : (match fst? p 0 n with | some _ => a | none => z) = if anyB p n = true then a else z := by
  cases h : fst? p 0 n with
  | none =>
    rw [if_neg]
    intro hz
    obtain ⟨k, hk, hp⟩ := anyB_iff.mp hz
    have := fst?_none h k (by omega) (by omega)
    rw [hp] at this
    exact absurd this (by decide)
  | some j =>
    obtain ⟨h1, h2, h3, h4⟩ := fst?_some h
    rw [if_pos (anyB_iff.mpr ⟨j, by omega, h3⟩)]
theorem it_any (p : Nat → Bool) : ∀ n, it (fun k a => if a = 0 then (0 : Int32) else if p k = true then 0 else 1) n 1 = if anyB p n = true then 0 else 1
  | 0 => rfl
  | n + 1 => by
    rw [it, it_any p n, anyB]
    by_cases h : anyB p n = true
    · rw [if_pos h, if_pos rfl, if_pos (by rw [h]; rfl)]
    · rw [if_neg h, if_neg (by decide)]
      have h' : anyB p n = false := by simpa using h
      rw [h', Bool.false_or]
/-- another of n lies on y -/
def tk (f : Nat → Int32) (i : Nat) (y : Int32) : Nat → Bool := fun k => decide (¬ k = i ∧ f k = y)
theorem n_le {a b : Nat} (ha : a < 2 ^ 31) (hb : b < 2 ^ 31) : nI a ≤ nI b ↔ a ≤ b := by rw [le_T, nT ha, nT hb]; omega
theorem n_lt {a b : Nat} (ha : a < 2 ^ 31) (hb : b < 2 ^ 31) : nI a < nI b ↔ a < b := by rw [lt_T, nT ha, nT hb]; omega
theorem n_eq {a b : Nat} (ha : a < 2 ^ 31) (hb : b < 2 ^ 31) : nI a = nI b ↔ a = b := by rw [eq_T, nT ha, nT hb]; omega
theorem s_taken {S : mT} {n : Nat} (hn : n ≤ 6) (e : S.1 0 7 = nI n) (y : Int32) {i : Nat} (hi : i < 6) : f_X10_isTakenByAnother 0 y (nI i) (mk S) = some (if anyB (tk (S.2.1 10) i y) n = true then 1 else 0) := by
  have hl := (loopR (fun m k => f_X10_isTakenByAnother_L2 0 y (nI i) (mk S) m (nI k)) (tk (S.2.1 10) i y) (fun _ => Sum.inl 1) (Sum.inr ()) n 0 mFuel ?_ ?_ (by unfold mFuel; omega)).trans (congrArg some (fst_any (tk (S.2.1 10) i y) n (Sum.inl (1 : Int32)) (Sum.inr ()))) 
  · simp only [f_X10_isTakenByAnother]
    rw [show f_X10_isTakenByAnother_L2 0 y (nI i) (mk S) mFuel 0 = _ from hl]
    by_cases h : anyB (tk (S.2.1 10) i y) n = true
    · rw [if_pos h, if_pos h]; rfl
    · rw [if_neg h, if_neg h]; rfl
  · intro m k _ hk
    simp only [f_X10_isTakenByAnother_L2, f_X10_isTakenByAnother_J32, rR_0_0, rR_0_1, rR_0_2, rR_0_3, rR_0_4, rR_0_5, rR_0_6, rR_1_0, rR_3_0, rR_3_1, rR_3_2, rR_3_3, rR_9_0, rR_9_1, rR_9_2, rR_9_3, rR_9_4, rR_9_5, rR_9_6, rR_16_0, rR_16_1, rR_16_2, rR_20_0, rR_20_1, rR_20_2, rR_20_3, rR_20_4, rR_20_5, rR_20_6, rR_27_0, rR_27_1, rR_27_2, rR_31_0, rR_31_1, rR_31_2, rR_31_3, rR_31_4, rR_38_0, rR_38_10, rR_38_11, rR_38_12, rR_38_13, rR_38_14, rR_38_15, rR_38_16, rR_38_17, rR_38_18, rR_38_19, rR_38_20, rR_38_23, rR_38_31, rR_38_32, rR_38_33, rR_38_34, rR_38_35, rR_38_36, rR_38_37, rR_38_38, kk_0, kk_1, kk_3, kk_9, kk_16, kk_20, kk_27, kk_31, kk_38, rI_0_7, rI_0_8, rI_0_9, rI_0_10, rI_1_1, rI_3_4, rI_3_5, rI_3_6, rI_3_7, rI_9_7, rI_9_8, rI_9_9, rI_9_10, rI_9_11, rI_16_3, rI_20_7, rI_20_8, rI_20_9, rI_20_10, rI_20_11, rI_27_3, rI_31_5, rI_31_6, rI_38_1, rI_38_2, rI_38_3, rI_38_4, rI_38_5, rI_38_6, rI_38_7, rI_38_8, rI_38_9, rI_38_21, rI_38_22, rI_38_24, rI_38_25, rI_38_26, rI_38_27, rI_38_28, rI_38_29, rI_38_30, rL_38_39, bS, e, s_at (aG_10 S) (by decide) (show k < 6 by omega), nI_1]
    rw [if_neg (show ¬ nI n ≤ nI k by rw [n_le (by omega) (by omega)]; omega)]
    by_cases h1 : k = i
    · rw [if_pos (congrArg nI h1), if_neg (show ¬ tk (S.2.1 10) i y k = true by unfold tk; simp [h1])]
    · rw [if_neg (show ¬ nI k = nI i by rw [n_eq (by omega) (by omega)]; exact h1)]
      by_cases h2 : S.2.1 10 k = y
      · rw [if_pos h2, if_pos (show tk (S.2.1 10) i y k = true by unfold tk; simp [h1, h2])]
      · rw [if_neg h2, if_neg (show ¬ tk (S.2.1 10) i y k = true by unfold tk; simp [h2])]
  · intro m
    simp only [f_X10_isTakenByAnother_L2, rR_0_0, rR_0_1, rR_0_2, rR_0_3, rR_0_4, rR_0_5, rR_0_6, rR_1_0, rR_3_0, rR_3_1, rR_3_2, rR_3_3, rR_9_0, rR_9_1, rR_9_2, rR_9_3, rR_9_4, rR_9_5, rR_9_6, rR_16_0, rR_16_1, rR_16_2, rR_20_0, rR_20_1, rR_20_2, rR_20_3, rR_20_4, rR_20_5, rR_20_6, rR_27_0, rR_27_1, rR_27_2, rR_31_0, rR_31_1, rR_31_2, rR_31_3, rR_31_4, rR_38_0, rR_38_10, rR_38_11, rR_38_12, rR_38_13, rR_38_14, rR_38_15, rR_38_16, rR_38_17, rR_38_18, rR_38_19, rR_38_20, rR_38_23, rR_38_31, rR_38_32, rR_38_33, rR_38_34, rR_38_35, rR_38_36, rR_38_37, rR_38_38, kk_0, kk_1, kk_3, kk_9, kk_16, kk_20, kk_27, kk_31, kk_38, rI_0_7, rI_0_8, rI_0_9, rI_0_10, rI_1_1, rI_3_4, rI_3_5, rI_3_6, rI_3_7, rI_9_7, rI_9_8, rI_9_9, rI_9_10, rI_9_11, rI_16_3, rI_20_7, rI_20_8, rI_20_9, rI_20_10, rI_20_11, rI_27_3, rI_31_5, rI_31_6, rI_38_1, rI_38_2, rI_38_3, rI_38_4, rI_38_5, rI_38_6, rI_38_7, rI_38_8, rI_38_9, rI_38_21, rI_38_22, rI_38_24, rI_38_25, rI_38_26, rI_38_27, rI_38_28, rI_38_29, rI_38_30, rL_38_39, bS, e, Nat.zero_add]
    rw [if_pos (show nI n ≤ nI n by rw [n_le (by omega) (by omega)]; omega)]
theorem s_free {S : mT} {n : Nat} (hn : n ≤ 6) (e : S.1 38 3 = nI n) (y : Int32) {i : Nat} (hi : i < 6) : f_X11_isFreeFor 38 (nI i) y (mk S) = some (if anyB (tk (S.2.1 40) i y) n = true then 0 else 1) := by
  have hl := loopG (fun m a k => f_X11_isFreeFor_L5 38 (nI i) y (mk S) m a (nI k)) n (fun k a => if a = 0 then (0 : Int32) else if tk (S.2.1 40) i y k = true then 0 else 1) id 1 ?_ ?_ mFuel (by unfold mFuel; omega)
  · rw [it_any] at hl
    simp only [f_X11_isFreeFor]
    rw [show f_X11_isFreeFor_L5 38 (nI i) y (mk S) mFuel 1 0 = _ from hl]
    by_cases h : anyB (tk (S.2.1 40) i y) n = true
    · rw [if_pos h]; rfl
    · rw [if_neg h]; rfl
  · intro m k a hk
    simp only [f_X11_isFreeFor_L5, f_X11_isFreeFor_J39, f_X11_isFreeFor_J35, f_X11_isFreeFor_J40, rR_0_0, rR_0_1, rR_0_2, rR_0_3, rR_0_4, rR_0_5, rR_0_6, rR_1_0, rR_3_0, rR_3_1, rR_3_2, rR_3_3, rR_9_0, rR_9_1, rR_9_2, rR_9_3, rR_9_4, rR_9_5, rR_9_6, rR_16_0, rR_16_1, rR_16_2, rR_20_0, rR_20_1, rR_20_2, rR_20_3, rR_20_4, rR_20_5, rR_20_6, rR_27_0, rR_27_1, rR_27_2, rR_31_0, rR_31_1, rR_31_2, rR_31_3, rR_31_4, rR_38_0, rR_38_10, rR_38_11, rR_38_12, rR_38_13, rR_38_14, rR_38_15, rR_38_16, rR_38_17, rR_38_18, rR_38_19, rR_38_20, rR_38_23, rR_38_31, rR_38_32, rR_38_33, rR_38_34, rR_38_35, rR_38_36, rR_38_37, rR_38_38, kk_0, kk_1, kk_3, kk_9, kk_16, kk_20, kk_27, kk_31, kk_38, rI_0_7, rI_0_8, rI_0_9, rI_0_10, rI_1_1, rI_3_4, rI_3_5, rI_3_6, rI_3_7, rI_9_7, rI_9_8, rI_9_9, rI_9_10, rI_9_11, rI_16_3, rI_20_7, rI_20_8, rI_20_9, rI_20_10, rI_20_11, rI_27_3, rI_31_5, rI_31_6, rI_38_1, rI_38_2, rI_38_3, rI_38_4, rI_38_5, rI_38_6, rI_38_7, rI_38_8, rI_38_9, rI_38_21, rI_38_22, rI_38_24, rI_38_25, rI_38_26, rI_38_27, rI_38_28, rI_38_29, rI_38_30, rL_38_39, bS, e, aL_40 S (show k < 6 by omega), nI_1]
    rw [if_neg (show ¬ nI n ≤ nI k by rw [n_le (by omega) (by omega)]; omega)]
    by_cases h0 : a = 0
    · rw [if_pos h0, if_pos h0]
    · rw [if_neg h0, if_neg h0]
      by_cases h1 : k = i
      · rw [if_pos (congrArg nI h1), if_neg (show ¬ tk (S.2.1 40) i y k = true by unfold tk; simp [h1])]
      · rw [if_neg (show ¬ nI k = nI i by rw [n_eq (by omega) (by omega)]; exact h1)]
        by_cases h2 : S.2.1 40 k = y
        · rw [if_pos h2, if_pos (show tk (S.2.1 40) i y k = true by unfold tk; simp [h1, h2])]
        · rw [if_neg h2, if_neg (show ¬ tk (S.2.1 40) i y k = true by unfold tk; simp [h2])]
  · intro m a
    simp only [f_X11_isFreeFor_L5, rR_0_0, rR_0_1, rR_0_2, rR_0_3, rR_0_4, rR_0_5, rR_0_6, rR_1_0, rR_3_0, rR_3_1, rR_3_2, rR_3_3, rR_9_0, rR_9_1, rR_9_2, rR_9_3, rR_9_4, rR_9_5, rR_9_6, rR_16_0, rR_16_1, rR_16_2, rR_20_0, rR_20_1, rR_20_2, rR_20_3, rR_20_4, rR_20_5, rR_20_6, rR_27_0, rR_27_1, rR_27_2, rR_31_0, rR_31_1, rR_31_2, rR_31_3, rR_31_4, rR_38_0, rR_38_10, rR_38_11, rR_38_12, rR_38_13, rR_38_14, rR_38_15, rR_38_16, rR_38_17, rR_38_18, rR_38_19, rR_38_20, rR_38_23, rR_38_31, rR_38_32, rR_38_33, rR_38_34, rR_38_35, rR_38_36, rR_38_37, rR_38_38, kk_0, kk_1, kk_3, kk_9, kk_16, kk_20, kk_27, kk_31, kk_38, rI_0_7, rI_0_8, rI_0_9, rI_0_10, rI_1_1, rI_3_4, rI_3_5, rI_3_6, rI_3_7, rI_9_7, rI_9_8, rI_9_9, rI_9_10, rI_9_11, rI_16_3, rI_20_7, rI_20_8, rI_20_9, rI_20_10, rI_20_11, rI_27_3, rI_31_5, rI_31_6, rI_38_1, rI_38_2, rI_38_3, rI_38_4, rI_38_5, rI_38_6, rI_38_7, rI_38_8, rI_38_9, rI_38_21, rI_38_22, rI_38_24, rI_38_25, rI_38_26, rI_38_27, rI_38_28, rI_38_29, rI_38_30, rL_38_39, bS, e]
    rw [if_pos (show nI n ≤ nI n by rw [n_le (by omega) (by omega)]; omega)]
    rfl
theorem anyB_congr {p q : Nat → Bool} : ∀ {n : Nat}, (∀ k, k < n → p k = q k) → anyB p n = anyB q n
  | 0, _ => rfl
  | n + 1, h => by rw [anyB, anyB, anyB_congr (fun k hk => h k (by omega)), h n (by omega)]
theorem k_lone : ∀ i : Fin 6, ((1 : Int32) <<< (nI i.val &&& 31)) = nI (2 ^ i.val) := by decide +kernel
theorem n_lone {i : Nat} (hi : i < 6) : ((1 : Int32) <<< (nI i &&& 31)) = nI (2 ^ i) := k_lone ⟨i, hi⟩
theorem pow64 {i : Nat} (hi : i < 6) : 2 ^ i < 64 := Nat.lt_of_le_of_lt (Nat.pow_le_pow_right (by decide) (show i ≤ 5 by omega)) (by decide)
theorem two_bit (i k : Nat) : (2 ^ i).testBit k = decide (i = k) := Nat.testBit_two_pow
theorem op_move {N : Nat} {S : mT} (h : Inv N S) (x y : Int32) : ∃ r S1 S2, f_X10_move 0 x y (mk S) = some (r, mk S1) ∧ f_X11_move 38 x y (mk S1) = some (r, mk S2) ∧ Inv N S2 := by
  obtain ⟨n, t, p, L, ⟨a1, a2, a3, a4, a5, a6, a7⟩, ⟨b1, b2, b3, b4, b5, b6, b7, b8⟩, hP, hK, hN, hI⟩ := id h
  simp only [f_X10_move, f_X10_move_J16, s_isSlC a1 b1, rR_0_0, rR_0_1, rR_0_2, rR_0_3, rR_0_4, rR_0_5, rR_0_6, rR_1_0, rR_3_0, rR_3_1, rR_3_2, rR_3_3, rR_9_0, rR_9_1, rR_9_2, rR_9_3, rR_9_4, rR_9_5, rR_9_6, rR_16_0, rR_16_1, rR_16_2, rR_20_0, rR_20_1, rR_20_2, rR_20_3, rR_20_4, rR_20_5, rR_20_6, rR_27_0, rR_27_1, rR_27_2, rR_31_0, rR_31_1, rR_31_2, rR_31_3, rR_31_4, rR_38_0, rR_38_10, rR_38_11, rR_38_12, rR_38_13, rR_38_14, rR_38_15, rR_38_16, rR_38_17, rR_38_18, rR_38_19, rR_38_20, rR_38_23, rR_38_31, rR_38_32, rR_38_33, rR_38_34, rR_38_35, rR_38_36, rR_38_37, rR_38_38, kk_0, kk_1, kk_3, kk_9, kk_16, kk_20, kk_27, kk_31, kk_38, rI_0_7, rI_0_8, rI_0_9, rI_0_10, rI_1_1, rI_3_4, rI_3_5, rI_3_6, rI_3_7, rI_9_7, rI_9_8, rI_9_9, rI_9_10, rI_9_11, rI_16_3, rI_20_7, rI_20_8, rI_20_9, rI_20_10, rI_20_11, rI_27_3, rI_31_5, rI_31_6, rI_38_1, rI_38_2, rI_38_3, rI_38_4, rI_38_5, rI_38_6, rI_38_7, rI_38_8, rI_38_9, rI_38_21, rI_38_22, rI_38_24, rI_38_25, rI_38_26, rI_38_27, rI_38_28, rI_38_29, rI_38_30, rL_38_39, bS, ite01]
  by_cases hx : 0 ≤ x.toInt ∧ x.toInt < n
  · obtain ⟨i, h1, rfl, h3⟩ := nI_of' hx.1
    have hi : i < n := by omega
    rw [if_neg (show ¬ ¬ (0 ≤ (nI i).toInt ∧ (nI i).toInt < n) by omega)]
    simp only [s_isCellC a1 b1, s_taken a1 b1 y (show i < 6 by omega), ite01, rR_0_0, rR_0_1, rR_0_2, rR_0_3, rR_0_4, rR_0_5, rR_0_6, rR_1_0, rR_3_0, rR_3_1, rR_3_2, rR_3_3, rR_9_0, rR_9_1, rR_9_2, rR_9_3, rR_9_4, rR_9_5, rR_9_6, rR_16_0, rR_16_1, rR_16_2, rR_20_0, rR_20_1, rR_20_2, rR_20_3, rR_20_4, rR_20_5, rR_20_6, rR_27_0, rR_27_1, rR_27_2, rR_31_0, rR_31_1, rR_31_2, rR_31_3, rR_31_4, rR_38_0, rR_38_10, rR_38_11, rR_38_12, rR_38_13, rR_38_14, rR_38_15, rR_38_16, rR_38_17, rR_38_18, rR_38_19, rR_38_20, rR_38_23, rR_38_31, rR_38_32, rR_38_33, rR_38_34, rR_38_35, rR_38_36, rR_38_37, rR_38_38, kk_0, kk_1, kk_3, kk_9, kk_16, kk_20, kk_27, kk_31, kk_38, rI_0_7, rI_0_8, rI_0_9, rI_0_10, rI_1_1, rI_3_4, rI_3_5, rI_3_6, rI_3_7, rI_9_7, rI_9_8, rI_9_9, rI_9_10, rI_9_11, rI_16_3, rI_20_7, rI_20_8, rI_20_9, rI_20_10, rI_20_11, rI_27_3, rI_31_5, rI_31_6, rI_38_1, rI_38_2, rI_38_3, rI_38_4, rI_38_5, rI_38_6, rI_38_7, rI_38_8, rI_38_9, rI_38_21, rI_38_22, rI_38_24, rI_38_25, rI_38_26, rI_38_27, rI_38_28, rI_38_29, rI_38_30, rL_38_39, bS]
    by_cases hy : 0 ≤ y.toInt ∧ y.toInt ≤ 35
    · rw [if_neg (show ¬ ¬ (n ≠ 0 ∧ 0 ≤ y.toInt ∧ y.toInt ≤ 35) by omega)]
      obtain ⟨g1, g2, g3, g4, g5⟩ := hN
      have heq : anyB (tk (S.2.1 10) i y) n = anyB (tk (S.2.1 40) i y) n := anyB_congr (fun k hk => by unfold tk; rw [show S.2.1 10 k = S.2.1 40 k from (g2 k hk).1])
      by_cases ht : anyB (tk (S.2.1 10) i y) n = true
      · rw [if_neg (show ¬ ¬ anyB (tk (S.2.1 10) i y) n = true from fun z => z ht)]
        refine ⟨_, S, S, rfl, ?_, h⟩
        simp only [f_X11_move, f_X11_move_J15, s_isSlR a1 b2, s_isCellR, s_free a1 b2 y (show i < 6 by omega), ite10, ite01, rR_0_0, rR_0_1, rR_0_2, rR_0_3, rR_0_4, rR_0_5, rR_0_6, rR_1_0, rR_3_0, rR_3_1, rR_3_2, rR_3_3, rR_9_0, rR_9_1, rR_9_2, rR_9_3, rR_9_4, rR_9_5, rR_9_6, rR_16_0, rR_16_1, rR_16_2, rR_20_0, rR_20_1, rR_20_2, rR_20_3, rR_20_4, rR_20_5, rR_20_6, rR_27_0, rR_27_1, rR_27_2, rR_31_0, rR_31_1, rR_31_2, rR_31_3, rR_31_4, rR_38_0, rR_38_10, rR_38_11, rR_38_12, rR_38_13, rR_38_14, rR_38_15, rR_38_16, rR_38_17, rR_38_18, rR_38_19, rR_38_20, rR_38_23, rR_38_31, rR_38_32, rR_38_33, rR_38_34, rR_38_35, rR_38_36, rR_38_37, rR_38_38, kk_0, kk_1, kk_3, kk_9, kk_16, kk_20, kk_27, kk_31, kk_38, rI_0_7, rI_0_8, rI_0_9, rI_0_10, rI_1_1, rI_3_4, rI_3_5, rI_3_6, rI_3_7, rI_9_7, rI_9_8, rI_9_9, rI_9_10, rI_9_11, rI_16_3, rI_20_7, rI_20_8, rI_20_9, rI_20_10, rI_20_11, rI_27_3, rI_31_5, rI_31_6, rI_38_1, rI_38_2, rI_38_3, rI_38_4, rI_38_5, rI_38_6, rI_38_7, rI_38_8, rI_38_9, rI_38_21, rI_38_22, rI_38_24, rI_38_25, rI_38_26, rI_38_27, rI_38_28, rI_38_29, rI_38_30, rL_38_39, bS, if_neg (show ¬ ¬ (0 ≤ (nI i).toInt ∧ (nI i).toInt < n) by omega), if_neg (show ¬ ¬ (0 ≤ y.toInt ∧ y.toInt ≤ 35) by omega)]
        rw [if_pos (heq ▸ ht)]
      · rw [if_pos ht]
        obtain ⟨q, hq1, rfl, hq3⟩ := nI_of' hy.1
        have hcv : S.1 9 7 = nI (bN (cvB S 41) n) := g4.2
        have hnew : nI (bN (cvB S 41) n) &&& (((1 : Int32) <<< (nI i &&& 31)) ^^^ (-1)) = nI (bN (cvB (uA S 41 (upd (S.2.1 41) i 0)) 41) n) := by
          rw [n_lone (by omega), n_wo (bN_lt64 a1) (pow64 (by omega))]
          refine congrArg nI (n_ext (Nat.lt_of_le_of_lt (wo_le _ _) (bN_lt64 a1)) (bN_lt64 a1) fun k hk => ?_)
          rw [wo_bit (bN_lt64 a1) (pow64 (by omega)) hk, bN_bit, bN_bit, two_bit]
          show (decide (k < n) && decide (S.2.1 41 k = 1) && !decide (i = k)) = (decide (k < n) && decide ((if k = i then 0 else S.2.1 41 k) = 1))
          by_cases hki : k = i
          · subst hki
            rw [if_pos rfl]
            simp
          · rw [if_neg hki]
            simp [show ¬ i = k from fun e => hki e.symm]
        refine ⟨S.2.1 10 i, uI (uA S 10 (upd (S.2.1 10) i (nI q))) 9 7 (S.1 9 7 &&& (((1 : Int32) <<< (nI i &&& 31)) ^^^ (-1))), uA (uA (uI (uA S 10 (upd (S.2.1 10) i (nI q))) 9 7 (S.1 9 7 &&& (((1 : Int32) <<< (nI i &&& 31)) ^^^ (-1)))) 40 (upd (S.2.1 40) i (nI q))) 41 (upd (S.2.1 41) i 0), ?_, ?_, n, t, p, L, ⟨a1, a2, a3, a4, a5, a6, a7⟩, ⟨b1, b2, b3, b4, b5, b6, b7, b8⟩, hP, hK, ⟨g1, ?_, g3, ⟨?_, ?_⟩, g5⟩, hI⟩
        · rw [s_at (aG_10 S) (by decide) (show i < 6 by omega), Option.bind_some, s_put (aG_10 S) (by decide) (show i < 6 by omega), aW_10]
          simp only [rR_0_0, rR_0_1, rR_0_2, rR_0_3, rR_0_4, rR_0_5, rR_0_6, rR_1_0, rR_3_0, rR_3_1, rR_3_2, rR_3_3, rR_9_0, rR_9_1, rR_9_2, rR_9_3, rR_9_4, rR_9_5, rR_9_6, rR_16_0, rR_16_1, rR_16_2, rR_20_0, rR_20_1, rR_20_2, rR_20_3, rR_20_4, rR_20_5, rR_20_6, rR_27_0, rR_27_1, rR_27_2, rR_31_0, rR_31_1, rR_31_2, rR_31_3, rR_31_4, rR_38_0, rR_38_10, rR_38_11, rR_38_12, rR_38_13, rR_38_14, rR_38_15, rR_38_16, rR_38_17, rR_38_18, rR_38_19, rR_38_20, rR_38_23, rR_38_31, rR_38_32, rR_38_33, rR_38_34, rR_38_35, rR_38_36, rR_38_37, rR_38_38, kk_0, kk_1, kk_3, kk_9, kk_16, kk_20, kk_27, kk_31, kk_38, rI_0_7, rI_0_8, rI_0_9, rI_0_10, rI_1_1, rI_3_4, rI_3_5, rI_3_6, rI_3_7, rI_9_7, rI_9_8, rI_9_9, rI_9_10, rI_9_11, rI_16_3, rI_20_7, rI_20_8, rI_20_9, rI_20_10, rI_20_11, rI_27_3, rI_31_5, rI_31_6, rI_38_1, rI_38_2, rI_38_3, rI_38_4, rI_38_5, rI_38_6, rI_38_7, rI_38_8, rI_38_9, rI_38_21, rI_38_22, rI_38_24, rI_38_25, rI_38_26, rI_38_27, rI_38_28, rI_38_29, rI_38_30, rL_38_39, bS, wI_0_7, wI_0_8, wI_0_9, wI_1_1, wI_3_4, wI_3_5, wI_3_6, wI_3_7, wI_9_7, wI_9_8, wI_9_9, wI_9_10, wI_9_11, wI_16_3, wI_20_7, wI_20_8, wI_20_9, wI_20_10, wI_20_11, wI_27_3, wI_31_5, wI_31_6, wI_38_1, wI_38_2, wI_38_3, wI_38_4, wI_38_5, wI_38_6, wI_38_7, wI_38_8, wI_38_9, wI_38_21, wI_38_22, wI_38_24, wI_38_25, wI_38_26, wI_38_27, wI_38_28, wI_38_29, wI_38_30, wL_38_39]
          rfl
        · simp only [f_X11_move, f_X11_move_J15, s_isSlR (S := uI (uA S 10 (upd (S.2.1 10) i (nI q))) 9 7 (S.1 9 7 &&& (((1 : Int32) <<< (nI i &&& 31)) ^^^ (-1)))) a1 b2, s_isCellR, s_free (S := uI (uA S 10 (upd (S.2.1 10) i (nI q))) 9 7 (S.1 9 7 &&& (((1 : Int32) <<< (nI i &&& 31)) ^^^ (-1)))) a1 b2 (nI q) (show i < 6 by omega), ite10, ite01, rR_0_0, rR_0_1, rR_0_2, rR_0_3, rR_0_4, rR_0_5, rR_0_6, rR_1_0, rR_3_0, rR_3_1, rR_3_2, rR_3_3, rR_9_0, rR_9_1, rR_9_2, rR_9_3, rR_9_4, rR_9_5, rR_9_6, rR_16_0, rR_16_1, rR_16_2, rR_20_0, rR_20_1, rR_20_2, rR_20_3, rR_20_4, rR_20_5, rR_20_6, rR_27_0, rR_27_1, rR_27_2, rR_31_0, rR_31_1, rR_31_2, rR_31_3, rR_31_4, rR_38_0, rR_38_10, rR_38_11, rR_38_12, rR_38_13, rR_38_14, rR_38_15, rR_38_16, rR_38_17, rR_38_18, rR_38_19, rR_38_20, rR_38_23, rR_38_31, rR_38_32, rR_38_33, rR_38_34, rR_38_35, rR_38_36, rR_38_37, rR_38_38, kk_0, kk_1, kk_3, kk_9, kk_16, kk_20, kk_27, kk_31, kk_38, rI_0_7, rI_0_8, rI_0_9, rI_0_10, rI_1_1, rI_3_4, rI_3_5, rI_3_6, rI_3_7, rI_9_7, rI_9_8, rI_9_9, rI_9_10, rI_9_11, rI_16_3, rI_20_7, rI_20_8, rI_20_9, rI_20_10, rI_20_11, rI_27_3, rI_31_5, rI_31_6, rI_38_1, rI_38_2, rI_38_3, rI_38_4, rI_38_5, rI_38_6, rI_38_7, rI_38_8, rI_38_9, rI_38_21, rI_38_22, rI_38_24, rI_38_25, rI_38_26, rI_38_27, rI_38_28, rI_38_29, rI_38_30, rL_38_39, bS, if_neg (show ¬ ¬ (0 ≤ (nI i).toInt ∧ (nI i).toInt < n) by omega), if_neg (show ¬ ¬ (0 ≤ (nI q).toInt ∧ (nI q).toInt ≤ 35) by omega)]
          rw [if_neg (show ¬ anyB (tk ((uI (uA S 10 (upd (S.2.1 10) i (nI q))) 9 7 (S.1 9 7 &&& (((1 : Int32) <<< (nI i &&& 31)) ^^^ (-1)))).2.1 40) i (nI q)) n = true from heq ▸ ht), aL_40 _ (show i < 6 by omega), Option.bind_some, aS_40 _ _ (show i < 6 by omega)]
          simp only [rR_0_0, rR_0_1, rR_0_2, rR_0_3, rR_0_4, rR_0_5, rR_0_6, rR_1_0, rR_3_0, rR_3_1, rR_3_2, rR_3_3, rR_9_0, rR_9_1, rR_9_2, rR_9_3, rR_9_4, rR_9_5, rR_9_6, rR_16_0, rR_16_1, rR_16_2, rR_20_0, rR_20_1, rR_20_2, rR_20_3, rR_20_4, rR_20_5, rR_20_6, rR_27_0, rR_27_1, rR_27_2, rR_31_0, rR_31_1, rR_31_2, rR_31_3, rR_31_4, rR_38_0, rR_38_10, rR_38_11, rR_38_12, rR_38_13, rR_38_14, rR_38_15, rR_38_16, rR_38_17, rR_38_18, rR_38_19, rR_38_20, rR_38_23, rR_38_31, rR_38_32, rR_38_33, rR_38_34, rR_38_35, rR_38_36, rR_38_37, rR_38_38, kk_0, kk_1, kk_3, kk_9, kk_16, kk_20, kk_27, kk_31, kk_38, rI_0_7, rI_0_8, rI_0_9, rI_0_10, rI_1_1, rI_3_4, rI_3_5, rI_3_6, rI_3_7, rI_9_7, rI_9_8, rI_9_9, rI_9_10, rI_9_11, rI_16_3, rI_20_7, rI_20_8, rI_20_9, rI_20_10, rI_20_11, rI_27_3, rI_31_5, rI_31_6, rI_38_1, rI_38_2, rI_38_3, rI_38_4, rI_38_5, rI_38_6, rI_38_7, rI_38_8, rI_38_9, rI_38_21, rI_38_22, rI_38_24, rI_38_25, rI_38_26, rI_38_27, rI_38_28, rI_38_29, rI_38_30, rL_38_39, bS]
          rw [aS_41 _ _ (show i < 6 by omega)]
          show some (S.2.1 40 i, _) = some (S.2.1 10 i, _)
          rw [show S.2.1 10 i = S.2.1 40 i from (g2 i hi).1]
          rfl
        · intro k hk
          show upd (S.2.1 10) i (nI q) k = upd (S.2.1 40) i (nI q) k ∧ ∃ q' : Nat, q' < 36 ∧ upd (S.2.1 40) i (nI q) k = nI q'
          obtain ⟨d1, d2⟩ := g2 k hk
          rw [upd_at, upd_at, show S.2.1 10 k = S.2.1 40 k from d1]
          refine ⟨rfl, ?_⟩
          by_cases hki : k = i
          · rw [if_pos hki]; exact ⟨q, by omega, rfl⟩
          · rw [if_neg hki]; exact d2
        · intro k hk
          show upd (S.2.1 41) i 0 k = 0 ∨ upd (S.2.1 41) i 0 k = 1
          rw [upd_at]
          by_cases hki : k = i
          · rw [if_pos hki]; exact Or.inl rfl
          · rw [if_neg hki]; exact g4.1 k hk
        · show S.1 9 7 &&& (((1 : Int32) <<< (nI i &&& 31)) ^^^ (-1)) = _
          rw [hcv, hnew]
          rfl
    · rw [if_pos (show ¬ (n ≠ 0 ∧ 0 ≤ y.toInt ∧ y.toInt ≤ 35) by omega)]
      refine ⟨_, S, S, rfl, ?_, h⟩
      simp only [f_X11_move, f_X11_move_J15, s_isSlR a1 b2, s_isCellR, ite01, rR_0_0, rR_0_1, rR_0_2, rR_0_3, rR_0_4, rR_0_5, rR_0_6, rR_1_0, rR_3_0, rR_3_1, rR_3_2, rR_3_3, rR_9_0, rR_9_1, rR_9_2, rR_9_3, rR_9_4, rR_9_5, rR_9_6, rR_16_0, rR_16_1, rR_16_2, rR_20_0, rR_20_1, rR_20_2, rR_20_3, rR_20_4, rR_20_5, rR_20_6, rR_27_0, rR_27_1, rR_27_2, rR_31_0, rR_31_1, rR_31_2, rR_31_3, rR_31_4, rR_38_0, rR_38_10, rR_38_11, rR_38_12, rR_38_13, rR_38_14, rR_38_15, rR_38_16, rR_38_17, rR_38_18, rR_38_19, rR_38_20, rR_38_23, rR_38_31, rR_38_32, rR_38_33, rR_38_34, rR_38_35, rR_38_36, rR_38_37, rR_38_38, kk_0, kk_1, kk_3, kk_9, kk_16, kk_20, kk_27, kk_31, kk_38, rI_0_7, rI_0_8, rI_0_9, rI_0_10, rI_1_1, rI_3_4, rI_3_5, rI_3_6, rI_3_7, rI_9_7, rI_9_8, rI_9_9, rI_9_10, rI_9_11, rI_16_3, rI_20_7, rI_20_8, rI_20_9, rI_20_10, rI_20_11, rI_27_3, rI_31_5, rI_31_6, rI_38_1, rI_38_2, rI_38_3, rI_38_4, rI_38_5, rI_38_6, rI_38_7, rI_38_8, rI_38_9, rI_38_21, rI_38_22, rI_38_24, rI_38_25, rI_38_26, rI_38_27, rI_38_28, rI_38_29, rI_38_30, rL_38_39, bS, if_neg (show ¬ ¬ (0 ≤ (nI i).toInt ∧ (nI i).toInt < n) by omega), if_pos hy]
  · rw [if_pos hx]
    refine ⟨_, S, S, rfl, ?_, h⟩
    simp only [f_X11_move, f_X11_move_J15, s_isSlR a1 b2, ite01, rR_0_0, rR_0_1, rR_0_2, rR_0_3, rR_0_4, rR_0_5, rR_0_6, rR_1_0, rR_3_0, rR_3_1, rR_3_2, rR_3_3, rR_9_0, rR_9_1, rR_9_2, rR_9_3, rR_9_4, rR_9_5, rR_9_6, rR_16_0, rR_16_1, rR_16_2, rR_20_0, rR_20_1, rR_20_2, rR_20_3, rR_20_4, rR_20_5, rR_20_6, rR_27_0, rR_27_1, rR_27_2, rR_31_0, rR_31_1, rR_31_2, rR_31_3, rR_31_4, rR_38_0, rR_38_10, rR_38_11, rR_38_12, rR_38_13, rR_38_14, rR_38_15, rR_38_16, rR_38_17, rR_38_18, rR_38_19, rR_38_20, rR_38_23, rR_38_31, rR_38_32, rR_38_33, rR_38_34, rR_38_35, rR_38_36, rR_38_37, rR_38_38, kk_0, kk_1, kk_3, kk_9, kk_16, kk_20, kk_27, kk_31, kk_38, rI_0_7, rI_0_8, rI_0_9, rI_0_10, rI_1_1, rI_3_4, rI_3_5, rI_3_6, rI_3_7, rI_9_7, rI_9_8, rI_9_9, rI_9_10, rI_9_11, rI_16_3, rI_20_7, rI_20_8, rI_20_9, rI_20_10, rI_20_11, rI_27_3, rI_31_5, rI_31_6, rI_38_1, rI_38_2, rI_38_3, rI_38_4, rI_38_5, rI_38_6, rI_38_7, rI_38_8, rI_38_9, rI_38_21, rI_38_22, rI_38_24, rI_38_25, rI_38_26, rI_38_27, rI_38_28, rI_38_29, rI_38_30, rL_38_39, bS, if_pos hx]
