/-- is sleeper k under tosser j's pancake -/
def cvr (S : mT) (j : Nat) (x z : Int32) : Nat → Bool := fun k => decide (¬ lnd S j x z = -1 ∧ f_L_over (S.2.1 44 j) (lnd S j x z) (S.2.1 40 k) [] = some 1)
theorem cvr_sp {S : mT} {n t j k : Nat} (hK : KR S t) (hj : j < t) (hC : NCells S n 9 rNow) (hk : k < n) (x z : Int32) : (∃ kd e : Nat, kd ≤ 4 ∧ S.2.1 44 j = nI kd ∧ S.2.2.1 j = some (e + 41) ∧ S.2.2.2.2[e]? = some (.inl (cls kd, [])) ∧ (¬ lnd S j x z = -1 → f_L_over (S.2.1 44 j) (lnd S j x z) (S.2.1 40 k) [] = some (if cvr S j x z k = true then 1 else 0) ∧ spr kd ((S.2.1 40 k / 6) - (lnd S j x z / 6)) ((S.2.1 40 k - S.2.1 40 k / 6 * 6) - (lnd S j x z - lnd S j x z / 6 * 6)) = some (if cvr S j x z k = true then 1 else 0))) := by
  obtain ⟨kd, e, g1, g2, g3, g4⟩ := hK j hj
  refine ⟨kd, e, g1, g2, g3, g4, fun hl => ?_⟩
  obtain ⟨_, q, hq, hq2⟩ := hC k hk
  have hq3 : S.2.1 40 k = nI q := hq2
  rcases cel_ok (((x / (6 : Int32)) + S.2.1 45 j) - (2 : Int32)) ((((x - x / (6 : Int32) * (6 : Int32)) + S.2.1 46 j) - (2 : Int32)) + z) with hc | ⟨l, hl2, hc⟩
  · exact absurd hc hl
  · have hc' : lnd S j x z = nI l := hc
    have hr : cvr S j x z k = rch kd l q := by
      unfold cvr rch
      rw [hq3, g2, hc']
      rw [hc'] at hl
      simp only [hl, not_false_eq_true, true_and]
    rw [hr, hq3, g2, hc']
    exact k_rch ⟨kd, by omega⟩ ⟨l, hl2⟩ ⟨q, hq⟩
theorem cvr_over {S : mT} {n t j k : Nat} (hK : KR S t) (hj : j < t) (hC : NCells S n 9 rNow) (hk : k < n) (x z : Int32) (w : mW) : f_L_over (S.2.1 44 j) (lnd S j x z) (S.2.1 40 k) w = some (if cvr S j x z k = true then 1 else 0) := by
  obtain ⟨kd, e, g1, g2, g3, g4, g5⟩ := cvr_sp hK hj hC hk x z
  by_cases hl : lnd S j x z = -1
  · rw [hl, over_neg, if_neg (show ¬ cvr S j x z k = true by unfold cvr; simp [hl])]
  · rw [over_w]
    exact (g5 hl).1
theorem n_or0 (a : Int32) : a ||| 0 = a := Int32.or_zero
theorem bN_none {p : Nat → Bool} : ∀ {n : Nat}, (∀ k, k < n → p k = false) → bN p n = 0
  | 0, _ => rfl
  | n + 1, h => by rw [bN, bN_none (fun k hk => h k (by omega)), h n (by omega)]; rfl
theorem s_crw {S : mT} {n t j : Nat} (hn : n ≤ 6) (ht : t ≤ 4) (e : S.1 0 7 = nI n) (e2 : S.1 0 8 = nI t) (hK : KR S t) (hj : j < t) (hC : NCells S n 9 rNow) (hT : NTurn S t 9 rNow) (x z : Int32) : f_X10_crowdUnder 0 (nI j) x z (mk S) = some (nI (bN (cvr S j x z) n)) := by
  obtain ⟨kd, e0, g1, g2, g3, g4⟩ := hK j hj
  unfold f_X10_crowdUnder f_X10_crowdUnder_J27
  rw [kk_0, bS, s_taS ht e2 hj, bS, bS, s_lndC ht hj hT, bS, g3, oC_s]
  by_cases hl : lnd S j x z = -1
  · rw [if_pos hl, bN_none (fun k hk => by unfold cvr; simp [hl])]
    rfl
  · rw [if_neg hl]
    have hl2 := loopG (fun m a k => f_X10_crowdUnder_L35 0 (some (e0 + 41)) (lnd S j x z) (mk S) m a (nI k)) n (fun k a => if cvr S j x z k then a ||| ((1 : Int32) <<< (nI k &&& 31)) else a) id 0 ?_ ?_ mFuel (by unfold mFuel; omega)
    · rw [it_bits _ hn] at hl2
      rw [show f_X10_crowdUnder_L35 0 (some (e0 + 41)) (lnd S j x z) (mk S) mFuel 0 0 = _ from hl2, bS]
      rfl
    · intro m k a hk
      obtain ⟨kd', e', g1', g2', g3', g4', g5'⟩ := cvr_sp hK hj hC hk x z
      have he : e' = e0 := by
        rw [g3] at g3'
        have := Option.some.inj g3'
        omega
      subst he
      obtain ⟨_, g7⟩ := g5' hl
      simp only [f_X10_crowdUnder_L35, f_X10_crowdUnder_J97]
      rw [rI_0_7, bS, e, if_neg (show ¬ nI n ≤ nI k by rw [n_le (by omega) (by omega)]; omega), rR_0_3, bS, rR_9_0, bS, s_at (aG_10 S) (by decide) (by omega), bS, s_dvs g1' g4', show S.2.1 10 k = S.2.1 40 k from (hC k hk).1, g7, bS, nI_1]
      by_cases h : cvr S j x z k = true
      · rw [if_pos h, if_pos h, if_neg (by decide)]
      · rw [if_neg h, if_neg h, if_pos rfl]
    · intro m a
      simp only [f_X10_crowdUnder_L35]
      rw [rI_0_7, bS, e, if_pos (show nI n ≤ nI n by rw [n_le (by omega) (by omega)]; omega)]
      rfl
theorem s_odC {S : mT} {n t j i : Nat} (hn : n ≤ 6) (ht : t ≤ 4) (e : S.1 0 7 = nI n) (e2 : S.1 0 8 = nI t) (hK : KR S t) (hj : j < t) (hi : i < n) (hC : NCells S n 9 rNow) (hT : NTurn S t 9 rNow) (x a z : Int32) (m : Nat) (hz : ¬ (1 : Int32) < z) : f_X10_odds_L26 0 (nI i) (nI j) x (mk S) (m + 1) a z = f_X10_odds_L26 0 (nI i) (nI j) x (mk S) m (a + (if cvr S j x z i = true then 1 else 0)) (z + 1) := by
  simp only [f_X10_odds_L26]
  rw [if_neg hz, kk_0, bS, s_crw hn ht e e2 hK hj hC hT, bS, n_bit (bN_lt64 hn) (by omega), bN_bit]
  simp only [hi, decide_true, Bool.true_and]
