/-- is sleeper k under tosser j's pancake -/
def cvr (S : mT) (j : Nat) (x z : Int32) : Nat → Bool := fun k => decide (¬ lnd S j x z = -1 ∧ f_X11_reaches (S.2.1 44 j) (lnd S j x z) (S.2.1 40 k) [] = some 1)
theorem cvr_sp {S : mT} {n t j k : Nat} (hK : KR S t) (hj : j < t) (hC : NCells S n 9 rNow) (hk : k < n) (x z : Int32) : (∃ kd e : Nat, kd ≤ 4 ∧ S.2.1 44 j = nI kd ∧ S.2.2.1 j = some (e + 60) ∧ S.2.2.2.2[e]? = some (.inl (cls kd, [])) ∧ (¬ lnd S j x z = -1 → f_X11_reaches (S.2.1 44 j) (lnd S j x z) (S.2.1 40 k) [] = some (if cvr S j x z k = true then 1 else 0) ∧ spr kd ((S.2.1 40 k / 6) - (lnd S j x z / 6)) ((S.2.1 40 k - S.2.1 40 k / 6 * 6) - (lnd S j x z - lnd S j x z / 6 * 6)) = some (if cvr S j x z k = true then 1 else 0))) := by
  obtain ⟨kd, e, g1, g2, g3, g4⟩ := hK j hj
  refine ⟨kd, e, g1, g2, g3, g4, fun hl => ?_⟩
  obtain ⟨_, q, hq, hq2⟩ := hC k hk
  have hq3 : S.2.1 40 k = nI q := hq2
  rcases cel_ok (((x / (6 : Int32)) + S.2.1 45 j) - (2 : Int32)) ((((x - x / (6 : Int32) * (6 : Int32)) + S.2.1 46 j) - (2 : Int32)) + z) with hc | ⟨l, hl2, hc⟩
  · exact absurd hc hl
  · have hc' : lnd S j x z = nI l := hc
    have hr : cvr S j x z k = rch kd l q := by
      unfold cvr rch
      rw [hq3, g2, hc']
      rw [hc'] at hl
      simp only [hl, not_false_eq_true, true_and]
    rw [hr, hq3, g2, hc']
    exact k_rch ⟨kd, by omega⟩ ⟨l, hl2⟩ ⟨q, hq⟩
theorem s_cvc {S : mT} {n t j k : Nat} (ht : t ≤ 4) (hK : KR S t) (hj : j < t) (hC : NCells S n 9 rNow) (hk : k < n) (x z : Int32) : f_X11_coversCell 38 (nI j) x z (S.2.1 40 k) (mk S) = some (if cvr S j x z k = true then 1 else 0) := by
  unfold f_X11_coversCell f_X11_coversCell_J35
  rw [kk_38, bS, s_lndR (by omega), bS]
  by_cases hl : lnd S j x z = -1
  · rw [if_pos hl, if_neg (show ¬ cvr S j x z k = true by unfold cvr; simp [hl])]
    rfl
  · obtain ⟨kd, e, g1, g2, g3, g4, g5⟩ := cvr_sp hK hj hC hk x z
    obtain ⟨g6, g7⟩ := g5 hl
    rw [if_neg hl, rR_38_14, bS, aL_44 S (by omega), bS, reaches_w, g6, bS]
    by_cases h : cvr S j x z k = true
    · rw [if_pos h, if_neg (by decide)]; rfl
    · rw [if_neg h, if_pos rfl]; rfl
theorem n_or0 (a : Int32) : a ||| 0 = a := Int32.or_zero
theorem s_covR {S : mT} {n t j : Nat} (hn : n ≤ 6) (ht : t ≤ 4) (e : S.1 38 3 = nI n) (hK : KR S t) (hj : j < t) (hC : NCells S n 9 rNow) (x z : Int32) : f_X11_coversOf 38 (nI j) x z (mk S) = some (nI (bN (cvr S j x z) n)) := by
  have hl := loopG (fun m a k => f_X11_coversOf_L6 38 (nI j) x z (mk S) m a (nI k)) n (fun k a => if cvr S j x z k then a ||| ((1 : Int32) <<< (nI k &&& 31)) else a) id 0 ?_ ?_ mFuel (by unfold mFuel; omega)
  · rw [it_bits _ hn] at hl
    unfold f_X11_coversOf
    rw [show f_X11_coversOf_L6 38 (nI j) x z (mk S) mFuel 0 0 = _ from hl, bS]
    rfl
  · intro m k a hk
    simp only [f_X11_coversOf_L6, f_X11_coversOf_J42]
    rw [rI_38_3, bS, e, if_neg (show ¬ nI n ≤ nI k by rw [n_le (by omega) (by omega)]; omega), rR_38_10, bS, aL_40 S (by omega), bS, kk_38, bS, s_cvc ht hK hj hC hk, bS, nI_1]
    by_cases h : cvr S j x z k = true
    · rw [if_pos h, if_pos h, if_neg (by decide)]
    · rw [if_neg h, if_neg h, if_pos rfl, n_or0]
  · intro m a
    simp only [f_X11_coversOf_L6]
    rw [rI_38_3, bS, e, if_pos (show nI n ≤ nI n by rw [n_le (by omega) (by omega)]; omega)]
    rfl
theorem bN_none {p : Nat → Bool} : ∀ {n : Nat}, (∀ k, k < n → p k = false) → bN p n = 0
  | 0, _ => rfl
  | n + 1, h => by rw [bN, bN_none (fun k hk => h k (by omega)), h n (by omega)]; rfl
theorem s_crw {S : mT} {n t j : Nat} (hn : n ≤ 6) (ht : t ≤ 4) (e : S.1 0 7 = nI n) (e2 : S.1 0 8 = nI t) (hK : KR S t) (hj : j < t) (hC : NCells S n 9 rNow) (hT : NTurn S t 9 rNow) (x z : Int32) : f_X10_crowdUnder 0 (nI j) x z (mk S) = some (nI (bN (cvr S j x z) n)) := by
  obtain ⟨kd, e0, g1, g2, g3, g4⟩ := hK j hj
  unfold f_X10_crowdUnder f_X10_crowdUnder_J27
  rw [kk_0, bS, s_taS ht e2 hj, bS, bS, s_lndC ht hj hT, bS, g3, oC_s]
  by_cases hl : lnd S j x z = -1
  · rw [if_pos hl, bN_none (fun k hk => by unfold cvr; simp [hl])]
    rfl
  · rw [if_neg hl]
    have hl2 := loopG (fun m a k => f_X10_crowdUnder_L35 0 (some (e0 + 60)) (lnd S j x z) (mk S) m a (nI k)) n (fun k a => if cvr S j x z k then a ||| ((1 : Int32) <<< (nI k &&& 31)) else a) id 0 ?_ ?_ mFuel (by unfold mFuel; omega)
    · rw [it_bits _ hn] at hl2
      rw [show f_X10_crowdUnder_L35 0 (some (e0 + 60)) (lnd S j x z) (mk S) mFuel 0 0 = _ from hl2, bS]
      rfl
    · intro m k a hk
      obtain ⟨kd', e', g1', g2', g3', g4', g5'⟩ := cvr_sp hK hj hC hk x z
      have he : e' = e0 := by
        rw [g3] at g3'
        have := Option.some.inj g3'
        omega
      subst he
      obtain ⟨_, g7⟩ := g5' hl
      simp only [f_X10_crowdUnder_L35, f_X10_crowdUnder_J97]
      rw [rI_0_7, bS, e, if_neg (show ¬ nI n ≤ nI k by rw [n_le (by omega) (by omega)]; omega), rR_0_3, bS, rR_9_0, bS, s_at (aG_10 S) (by decide) (by omega), bS, s_dvs g1' g4', show S.2.1 10 k = S.2.1 40 k from (hC k hk).1, g7, bS, nI_1]
      by_cases h : cvr S j x z k = true
      · rw [if_pos h, if_pos h, if_neg (by decide)]
      · rw [if_neg h, if_neg h, if_pos rfl]
    · intro m a
      simp only [f_X10_crowdUnder_L35]
      rw [rI_0_7, bS, e, if_pos (show nI n ≤ nI n by rw [n_le (by omega) (by omega)]; omega)]
      rfl
-- 9 lands, 10 covers, 24 odds
theorem op_lands {N : Nat} {S : mT} (h : Inv N S) (x y : Int32) : ∃ r, f_X10_lands 0 x y (mk S) = some r ∧ f_X11_lands 38 x y (mk S) = some r := by
  obtain ⟨n, t, p, L, ⟨a1, a2, a3, a4, a5, a6, a7⟩, ⟨b1, b2, b3, b4, b5, b6, b7, b8⟩, hP, hK, hN, hI⟩ := id h
  obtain ⟨g1, g2, g3, g4, g5, g6, g7⟩ := hN
  unfold f_X10_lands f_X11_lands f_X11_lands_J30 f_X11_lands_J28
  rw [kk_0, bS, s_isTossC a1 a2 a3 b1 b3 hK, bS, kk_38, bS, s_isToR a2 b4, bS, s_isCellR, bS]
  simp only [ite01]
  by_cases hx : 0 ≤ x.toInt ∧ x.toInt < t
  · by_cases hy : 0 ≤ y.toInt ∧ y.toInt ≤ 35
    · obtain ⟨j, h1, rfl, h3⟩ := nI_of' hx.1
      have hj : j < t := by omega
      rw [if_neg (fun z => z ⟨hx, hy⟩), if_neg (fun z => z hx), if_neg (fun z => z hy), rR_0_3, bS, rI_9_8, bS, bS, s_lndC a2 hj g5, bS, rI_38_5, bS, bS, s_lndR (by omega), bS, show S.1 9 8 = S.1 38 5 from g6]
      exact ⟨_, rfl, rfl⟩
    · rw [if_pos (fun z => hy z.2), if_neg (fun z => z hx), if_pos hy]
      exact ⟨_, rfl, rfl⟩
  · rw [if_pos (fun z => hx z.1), if_pos hx]
    exact ⟨_, rfl, rfl⟩
theorem op_covers {N : Nat} {S : mT} (h : Inv N S) (x y : Int32) : ∃ r, f_X10_covers 0 x y (mk S) = some r ∧ f_X11_covers 38 x y (mk S) = some r := by
  obtain ⟨n, t, p, L, ⟨a1, a2, a3, a4, a5, a6, a7⟩, ⟨b1, b2, b3, b4, b5, b6, b7, b8⟩, hP, hK, hN, hI⟩ := id h
  obtain ⟨g1, g2, g3, g4, g5, g6, g7⟩ := hN
  unfold f_X10_covers f_X11_covers f_X11_covers_J30 f_X11_covers_J28
  rw [kk_0, bS, s_isTossC a1 a2 a3 b1 b3 hK, bS, kk_38, bS, s_isToR a2 b4, bS, s_isCellR, bS]
  simp only [ite01]
  by_cases hx : 0 ≤ x.toInt ∧ x.toInt < t
  · by_cases hy : 0 ≤ y.toInt ∧ y.toInt ≤ 35
    · obtain ⟨j, h1, rfl, h3⟩ := nI_of' hx.1
      have hj : j < t := by omega
      rw [if_neg (fun z => z ⟨hx, hy⟩), if_neg (fun z => z hx), if_neg (fun z => z hy), rR_0_3, bS, rI_9_8, bS, bS, s_crw a1 a2 b1 b3 hK hj g2 g5, bS, rI_38_5, bS, bS, s_covR a1 a2 b2 hK hj g2, bS, show S.1 9 8 = S.1 38 5 from g6]
      exact ⟨_, rfl, rfl⟩
    · rw [if_pos (fun z => hy z.2), if_neg (fun z => z hx), if_pos hy]
      exact ⟨_, rfl, rfl⟩
  · rw [if_pos (fun z => hx z.1), if_pos hx]
    exact ⟨_, rfl, rfl⟩
theorem s_odC {S : mT} {n t j i : Nat} (hn : n ≤ 6) (ht : t ≤ 4) (e : S.1 0 7 = nI n) (e2 : S.1 0 8 = nI t) (hK : KR S t) (hj : j < t) (hi : i < n) (hC : NCells S n 9 rNow) (hT : NTurn S t 9 rNow) (x a z : Int32) (m : Nat) (hz : ¬ (1 : Int32) < z) : f_X10_odds_L26 0 (nI i) (nI j) x (mk S) (m + 1) a z = f_X10_odds_L26 0 (nI i) (nI j) x (mk S) m (a + (if cvr S j x z i = true then 1 else 0)) (z + 1) := by
  simp only [f_X10_odds_L26]
  rw [if_neg hz, kk_0, bS, s_crw hn ht e e2 hK hj hC hT, bS, n_bit (bN_lt64 hn) (by omega), bN_bit]
  simp only [hi, decide_true, Bool.true_and]
theorem s_odR {S : mT} {n t j i : Nat} (hn : n ≤ 6) (ht : t ≤ 4) (hK : KR S t) (hj : j < t) (hi : i < n) (hC : NCells S n 9 rNow) (x a z : Int32) (m : Nat) (hz : ¬ (2 : Int32) ≤ z) : f_X11_odds_L32 38 (nI i) (nI j) x (mk S) (m + 1) a z = f_X11_odds_L32 38 (nI i) (nI j) x (mk S) m (a + (if cvr S j x z i = true then 1 else 0)) (z + 1) := by
  simp only [f_X11_odds_L32, f_X11_odds_J62]
  rw [if_neg hz, rR_38_10, bS, aL_40 S (by omega), bS, kk_38, bS, s_cvc ht hK hj hC hi, bS]
  by_cases h : cvr S j x z i = true
  · rw [if_pos h, if_neg (by decide)]
  · rw [if_neg h, if_pos rfl]
theorem op_odds {N : Nat} {S : mT} (h : Inv N S) (u x y : Int32) : ∃ r, f_X10_odds 0 u x y (mk S) = some r ∧ f_X11_odds 38 u x y (mk S) = some r := by
  obtain ⟨n, t, p, L, ⟨a1, a2, a3, a4, a5, a6, a7⟩, ⟨b1, b2, b3, b4, b5, b6, b7, b8⟩, hP, hK, hN, hI⟩ := id h
  obtain ⟨g1, g2, g3, g4, g5, g6, g7⟩ := hN
  unfold f_X10_odds f_X11_odds f_X10_odds_J17 f_X11_odds_J23
  simp only [kk_0, kk_38, bS, s_isSlC a1 b1, s_isSlR a1 b2, s_isTossC a1 a2 a3 b1 b3 hK, s_isToR a2 b4, s_isCellR, ite01]
  by_cases hu : 0 ≤ u.toInt ∧ u.toInt < n
  · by_cases hx : 0 ≤ x.toInt ∧ x.toInt < t
    · by_cases hy : 0 ≤ y.toInt ∧ y.toInt ≤ 35
      · rw [if_neg (show ¬ ¬ (0 ≤ u.toInt ∧ u.toInt < n) from fun z => z hu), if_neg (show ¬ ¬ (0 ≤ u.toInt ∧ u.toInt < n) from fun z => z hu), if_neg (show ¬ ¬ ((0 ≤ x.toInt ∧ x.toInt < t) ∧ 0 ≤ y.toInt ∧ y.toInt ≤ 35) from fun z => z ⟨hx, hy⟩), if_neg (show ¬ ¬ (0 ≤ x.toInt ∧ x.toInt < t) from fun z => z hx), if_neg (show ¬ ¬ (0 ≤ y.toInt ∧ y.toInt ≤ 35) from fun z => z hy)]
        obtain ⟨j, h1, rfl, h3⟩ := nI_of' hx.1
        obtain ⟨i, h4, rfl, h6⟩ := nI_of' hu.1
        have hj : j < t := by omega
        have hi : i < n := by omega
        rw [show mFuel = 996 + 1 + 1 + 1 + 1 from rfl]
        generalize 996 = m
        rw [s_odC a1 a2 b1 b3 hK hj hi g2 g5 _ _ _ _ (by decide), s_odC a1 a2 b1 b3 hK hj hi g2 g5 _ _ _ _ (by decide), s_odC a1 a2 b1 b3 hK hj hi g2 g5 _ _ _ _ (by decide)]
        rw [s_odR a1 a2 hK hj hi g2 _ _ _ _ (by decide), s_odR a1 a2 hK hj hi g2 _ _ _ _ (by decide), s_odR a1 a2 hK hj hi g2 _ _ _ _ (by decide)]
        simp only [f_X10_odds_L26, f_X11_odds_L32]
        rw [if_pos (show (1 : Int32) < -1 + 1 + 1 + 1 by decide), if_pos (show (2 : Int32) ≤ -1 + 1 + 1 + 1 by decide)]
        exact ⟨_, rfl, rfl⟩
      · rw [if_neg (show ¬ ¬ (0 ≤ u.toInt ∧ u.toInt < n) from fun z => z hu), if_neg (show ¬ ¬ (0 ≤ u.toInt ∧ u.toInt < n) from fun z => z hu), if_pos (show ¬ ((0 ≤ x.toInt ∧ x.toInt < t) ∧ 0 ≤ y.toInt ∧ y.toInt ≤ 35) from fun z => hy z.2), if_neg (show ¬ ¬ (0 ≤ x.toInt ∧ x.toInt < t) from fun z => z hx), if_pos (show ¬ (0 ≤ y.toInt ∧ y.toInt ≤ 35) from hy)]
        exact ⟨_, rfl, rfl⟩
    · rw [if_neg (show ¬ ¬ (0 ≤ u.toInt ∧ u.toInt < n) from fun z => z hu), if_neg (show ¬ ¬ (0 ≤ u.toInt ∧ u.toInt < n) from fun z => z hu), if_pos (show ¬ ((0 ≤ x.toInt ∧ x.toInt < t) ∧ 0 ≤ y.toInt ∧ y.toInt ≤ 35) from fun z => hx z.1), if_pos (show ¬ (0 ≤ x.toInt ∧ x.toInt < t) from hx)]
      exact ⟨_, rfl, rfl⟩
  · rw [if_pos (show ¬ (0 ≤ u.toInt ∧ u.toInt < n) from hu), if_pos (show ¬ (0 ≤ u.toInt ∧ u.toInt < n) from hu)]
    exact ⟨_, rfl, rfl⟩
