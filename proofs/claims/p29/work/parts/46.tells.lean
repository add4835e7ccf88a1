-- what is told of a sleeper, of a tosser, of all
theorem c_sl0 {S : mT} {n i : Nat} (hn : n ≤ 6) (e : S.1 0 7 = nI n) (hi : i < n) : f_X10_sleeper 0 (nI i) 0 (mk S) = some (S.2.1 10 i, mk S) := by
  have hi' : (nI i).toInt = i := nT (by omega)
  unfold f_X10_sleeper
  refine bnd (kk_0 _) ?_
  refine bnd (s_isSlC hn e _) ?_
  rw [if_pos (show 0 ≤ (nI i).toInt ∧ (nI i).toInt < n by omega), if_neg (by decide), if_pos rfl]
  refine bnd (rR_0_3 _) ?_
  refine bnd (rR_9_0 _) ?_
  refine bnd (s_at (aG_10 S) (by decide) (show i < 6 by omega)) ?_
  rfl
theorem c_sl2 {S : mT} {n i : Nat} (hn : n ≤ 6) (e : S.1 0 7 = nI n) (hi : i < n) : f_X10_sleeper 0 (nI i) 2 (mk S) = some (S.2.1 11 i, mk S) := by
  have hi' : (nI i).toInt = i := nT (by omega)
  unfold f_X10_sleeper
  refine bnd (kk_0 _) ?_
  refine bnd (s_isSlC hn e _) ?_
  rw [if_pos (show 0 ≤ (nI i).toInt ∧ (nI i).toInt < n by omega), if_neg (by decide), if_neg (by decide), if_neg (by decide), if_pos rfl]
  refine bnd (rR_0_3 _) ?_
  refine bnd (rR_9_1 _) ?_
  refine bnd (s_at (aG_11 S) (by decide) (show i < 6 by omega)) ?_
  rfl
theorem c_sl3 {S : mT} {n i : Nat} (hn : n ≤ 6) (e : S.1 0 7 = nI n) (hi : i < n) : f_X10_sleeper 0 (nI i) 3 (mk S) = some (S.2.1 12 i, mk S) := by
  have hi' : (nI i).toInt = i := nT (by omega)
  unfold f_X10_sleeper
  refine bnd (kk_0 _) ?_
  refine bnd (s_isSlC hn e _) ?_
  rw [if_pos (show 0 ≤ (nI i).toInt ∧ (nI i).toInt < n by omega), if_neg (by decide), if_neg (by decide), if_neg (by decide), if_neg (by decide), if_pos rfl]
  refine bnd (rR_0_3 _) ?_
  refine bnd (rR_9_2 _) ?_
  refine bnd (s_at (aG_12 S) (by decide) (show i < 6 by omega)) ?_
  rfl
theorem c_sl1 {S : mT} {n i : Nat} (hn : n ≤ 6) (e : S.1 0 7 = nI n) (hi : i < n) {p : Nat → Bool} (hc : S.1 9 7 = nI (bN p n)) : f_X10_sleeper 0 (nI i) 1 (mk S) = some (if p i = true then 1 else 0, mk S) := by
  have hi' : (nI i).toInt = i := nT (by omega)
  unfold f_X10_sleeper
  refine bnd (kk_0 _) ?_
  refine bnd (s_isSlC hn e _) ?_
  rw [if_pos (show 0 ≤ (nI i).toInt ∧ (nI i).toInt < n by omega), if_neg (by decide), if_neg (by decide), if_pos rfl]
  refine bnd (rR_0_3 _) ?_
  refine bnd (rI_9_7 _) ?_
  rw [hc, n_bit (bN_lt64 hn) (show i < 6 by omega), bN_bit]
  simp only [hi, decide_true, Bool.true_and]
theorem c_to1 {S : mT} {t j : Nat} (ht : t ≤ 4) (e : S.1 0 8 = nI t) (hK : KR S t) (hj : j < t) : f_X10_tosser 0 (nI j) 1 (mk S) = some (S.2.1 13 j) := by
  obtain ⟨kd', e0, g1, g2, g3, g4⟩ := hK j hj
  have h4 : j < 4 := by omega
  unfold f_X10_tosser
  refine bnd (kk_0 _) ?_
  refine bnd (s_taS ht e hj) ?_
  rw [g3, oC_s, if_neg (by decide), if_pos rfl]
  refine bnd (rR_0_3 _) ?_
  refine bnd (rR_9_3 _) ?_
  refine bnd (s_at (aG_13 S) (by decide) h4) ?_
  rfl
theorem c_to2 {S : mT} {t j : Nat} (ht : t ≤ 4) (e : S.1 0 8 = nI t) (hK : KR S t) (hj : j < t) : f_X10_tosser 0 (nI j) 2 (mk S) = some (S.2.1 14 j) := by
  obtain ⟨kd', e0, g1, g2, g3, g4⟩ := hK j hj
  have h4 : j < 4 := by omega
  unfold f_X10_tosser
  refine bnd (kk_0 _) ?_
  refine bnd (s_taS ht e hj) ?_
  rw [g3, oC_s, if_neg (by decide), if_neg (by decide), if_pos rfl]
  refine bnd (rR_0_3 _) ?_
  refine bnd (rR_9_4 _) ?_
  refine bnd (s_at (aG_14 S) (by decide) h4) ?_
  rfl
theorem c_to8 {S : mT} {t j : Nat} (ht : t ≤ 4) (e : S.1 0 8 = nI t) (hK : KR S t) (hj : j < t) : f_X10_tosser 0 (nI j) 8 (mk S) = some (S.2.1 15 j) := by
  obtain ⟨kd', e0, g1, g2, g3, g4⟩ := hK j hj
  have h4 : j < 4 := by omega
  unfold f_X10_tosser
  refine bnd (kk_0 _) ?_
  refine bnd (s_taS ht e hj) ?_
  rw [g3, oC_s, if_neg (by decide), if_neg (by decide), if_neg (by decide), if_neg (by decide), if_neg (by decide), if_neg (by decide), if_neg (by decide), if_neg (by decide), if_pos rfl]
  refine bnd (rR_0_3 _) ?_
  refine bnd (rR_9_5 _) ?_
  refine bnd (s_at (aG_15 S) (by decide) h4) ?_
  rfl
theorem c_to0 {S : mT} {t j kd : Nat} (ht : t ≤ 4) (e : S.1 0 8 = nI t) (hK : KR S t) (hj : j < t) (hk : kd ≤ 4) (ek : S.2.1 44 j = nI kd) : f_X10_tosser 0 (nI j) 0 (mk S) = some (nI kd) := by
  obtain ⟨kd', e0, g1, g2, g3, g4⟩ := hK j hj
  have h4 : j < 4 := by omega
  unfold f_X10_tosser
  refine bnd (kk_0 _) ?_
  refine bnd (s_taS ht e hj) ?_
  rw [g3, oC_s, if_pos rfl]
  have hkk : kd' = kd := by
    have h1 := g2.symm.trans ek
    rw [n_eq (by omega) (by omega)] at h1
    exact h1
  subst hkk
  refine bnd (s_kindC g1 g4) ?_
  rfl
theorem c_to3 {S : mT} {t j kd : Nat} (ht : t ≤ 4) (e : S.1 0 8 = nI t) (hK : KR S t) (hj : j < t) (hk : kd ≤ 4) (ek : S.2.1 44 j = nI kd) : f_X10_tosser 0 (nI j) 3 (mk S) = some (bat kd) := by
  obtain ⟨kd', e0, g1, g2, g3, g4⟩ := hK j hj
  have h4 : j < 4 := by omega
  unfold f_X10_tosser
  refine bnd (kk_0 _) ?_
  refine bnd (s_taS ht e hj) ?_
  rw [g3, oC_s, if_neg (by decide), if_neg (by decide), if_neg (by decide), if_pos rfl]
  have hkk : kd' = kd := by
    have h1 := g2.symm.trans ek
    rw [n_eq (by omega) (by omega)] at h1
    exact h1
  subst hkk
  refine bnd (s_batC g1 g4) ?_
  rfl
theorem c_ct0 {S : mT}  : f_X10_count 0 0 (mk S) = some (S.1 0 7) := by
  unfold f_X10_count
  rw [if_pos rfl]
  refine bnd (rI_0_7 _) ?_
  rfl
theorem c_ct1 {S : mT}  : f_X10_count 0 1 (mk S) = some (S.1 0 8) := by
  unfold f_X10_count
  rw [if_neg (by decide), if_pos rfl]
  refine bnd (rI_0_8 _) ?_
  rfl
theorem c_ct2 {S : mT} {n : Nat} {p : Nat → Bool} (hn : n ≤ 6) (hc : S.1 9 7 = nI (bN p n)) : f_X10_count 0 2 (mk S) = some (nI (pop (bN p n))) := by
  unfold f_X10_count
  rw [if_neg (by decide), if_neg (by decide), if_pos rfl]
  refine bnd (rR_0_3 _) ?_
  refine bnd (rI_9_7 _) ?_
  rw [hc]
  refine bnd (s_bc (bN_lt64 hn) _) ?_
  rfl
theorem c_ct3 {S : mT}  : f_X10_count 0 3 (mk S) = some (S.1 9 9) := by
  unfold f_X10_count
  rw [if_neg (by decide), if_neg (by decide), if_neg (by decide), if_pos rfl]
  refine bnd (rR_0_3 _) ?_
  refine bnd (rI_9_9 _) ?_
  rfl
theorem c_ct4 {S : mT}  : f_X10_count 0 4 (mk S) = some (S.1 9 8 + 1) := by
  unfold f_X10_count
  rw [if_neg (by decide), if_neg (by decide), if_neg (by decide), if_neg (by decide), if_pos rfl]
  refine bnd (rR_0_3 _) ?_
  refine bnd (rI_9_8 _) ?_
  rfl
theorem c_ct5 {S : mT}  : f_X10_count 0 5 (mk S) = some (S.1 9 10) := by
  unfold f_X10_count
  rw [if_neg (by decide), if_neg (by decide), if_neg (by decide), if_neg (by decide), if_neg (by decide), if_pos rfl]
  refine bnd (rR_0_3 _) ?_
  refine bnd (rI_9_10 _) ?_
  rfl
theorem c_ct6 {S : mT}  : f_X10_count 0 6 (mk S) = some (sm (S.2.1 11) 6) := by
  unfold f_X10_count
  rw [if_neg (by decide), if_neg (by decide), if_neg (by decide), if_neg (by decide), if_neg (by decide), if_neg (by decide), if_pos rfl]
  refine bnd (rR_0_3 _) ?_
  refine bnd (rR_9_1 _) ?_
  refine bnd (s_sumC (aG_11 S) (by decide)) ?_
  rfl
theorem c_ct7 {S : mT}  : f_X10_count 0 7 (mk S) = some (sm (S.2.1 12) 6) := by
  unfold f_X10_count
  rw [if_neg (by decide), if_neg (by decide), if_neg (by decide), if_neg (by decide), if_neg (by decide), if_neg (by decide), if_neg (by decide), if_pos rfl]
  refine bnd (rR_0_3 _) ?_
  refine bnd (rR_9_2 _) ?_
  refine bnd (s_sumC (aG_12 S) (by decide)) ?_
  rfl
theorem c_ct8 {S : mT}  : f_X10_count 0 8 (mk S) = some (S.1 9 11) := by
  unfold f_X10_count
  rw [if_neg (by decide), if_neg (by decide), if_neg (by decide), if_neg (by decide), if_neg (by decide), if_neg (by decide), if_neg (by decide), if_neg (by decide), if_pos rfl]
  refine bnd (rR_0_3 _) ?_
  refine bnd (rI_9_11 _) ?_
  rfl
