theorem cz_cel {c : Nat → Nat} {k : Nat} (h1 : k % 3 = 1) (h2 : 48 ≤ c (k - 1) ∧ c (k - 1) ≤ 53) (h3 : 48 ≤ c k ∧ c k ≤ 53) : cel (nI (c (k - 1)) - 48) (nI (c k) - 48) = cz c (k / 3) ∧ ∃ q : Nat, q < 36 ∧ cz c (k / 3) = nI q := by
  have e1 : 3 * (k / 3) = k - 1 := by omega
  have e2 : 3 * (k / 3) + 1 = k := by omega
  unfold cel cz
  rw [e2, e1, s48 (by omega), s48 (by omega), if_pos (by omega), show (48 : Int32) = nI 48 from rfl, show (6 : Int32) = nI 6 from rfl, n_sub h2.1, n_sub h3.1, n_mul, n_add, n_add, n_sub (by omega)]
  exact ⟨congrArg nI (by omega), _, by omega, rfl⟩
theorem c_stepA {S T : mT} {c : Nat → Nat} {k : Nat} (hx : c k < 127) (h : CA S T c k) : ∃ T', f_X5_takes 3 (nI (c k)) (mk T) = some (if goodA c k = true then 1 else 0, mk T') ∧ ob T' = ob S ∧ (goodA c k = true → if k % 3 = 2 ∧ c k = 59 then CB S T' c k (k + 1) else CA S T' c (k + 1)) := by
  obtain ⟨o1, e1, p1, p2, p3, p4, p5⟩ := h
  have h3 : k % 3 = 0 ∨ k % 3 = 1 ∨ k % 3 = 2 := by omega
  unfold f_X5_takes goodA
  rw [rI_3_7, bS, p1, kk_3]
  rcases h3 with h3 | h3 | h3
  · rw [h3, if_pos (show nI 0 = (0 : Int32) from rfl), bS, s_tRow, bS, if_pos rfl, fin01, s48 hx]
    have hd : decide ((0 : Int) ≤ (c k : Int) - 48 ∧ (c k : Int) - 48 ≤ 5) = decide (48 ≤ c k ∧ c k ≤ 53) := by
      by_cases hz : 48 ≤ c k ∧ c k ≤ 53
      · rw [decide_eq_true hz, decide_eq_true (by omega)]
      · rw [decide_eq_false hz, decide_eq_false (by omega)]
    rw [hd]
    have ho : ob (uI (uI T 3 6 (nI (c k) - 48)) 3 7 1) = ob S := (ob_I rfl).trans ((ob_I rfl).trans o1)
    refine ⟨_, rfl, ho, fun hg => ?_⟩
    rw [if_neg (fun z => absurd z.1 (by decide))]
    refine ⟨ho, by omega, ?_, ?_, p3, fun _ => ?_, ?_⟩
    · show (1 : Int32) = _
      rw [show (k + 1) % 3 = 1 by omega]
      rfl
    · show T.1 3 4 = _
      rw [p2, show (k + 1 + 1) / 3 = (k + 1) / 3 by omega]
    · exact ⟨rfl, of_decide_eq_true hg⟩
    · rw [show (k + 1 + 1) / 3 = (k + 1) / 3 by omega]
      exact p5
  · obtain ⟨p6, p7⟩ := p4 h3
    rw [h3, if_neg (show ¬ nI 1 = (0 : Int32) by decide), if_pos (show nI 1 = (1 : Int32) from rfl), bS, s_tCol (a := (k + 1) / 3) (by omega) p2, bS, if_neg (show ¬ (1 : Nat) = 0 by decide), if_pos rfl, p6]
    have hk3 : (k + 1) / 3 = k / 3 := by omega
    by_cases hz : 48 ≤ c k ∧ c k ≤ 53
    · obtain ⟨q1, q, q2, q3⟩ := cz_cel h3 p7 hz
      rw [q1, decide_eq_true hz, Bool.true_and, hk3]
      have ha : anyB (fun i => decide (T.2.1 4 i = cz c (k / 3))) (k / 3) = anyB (fun i => decide (cz c i = cz c (k / 3))) (k / 3) := anyB_congr (fun i hi => by rw [(p5 i (by omega)).1])
      rw [ha]
      cases hb : anyB (fun i => decide (cz c i = cz c (k / 3))) (k / 3)
      · have ho : ob (uI (uI (uA T 4 (upd (T.2.1 4) (k / 3) (cz c (k / 3)))) 3 4 (nI (k / 3 + 1))) 3 7 2) = ob S := (ob_I rfl).trans ((ob_I rfl).trans ((ob_A rfl).trans o1))
        refine ⟨uI (uI (uA T 4 (upd (T.2.1 4) (k / 3) (cz c (k / 3)))) 3 4 (nI (k / 3 + 1))) 3 7 2, ?_, ho, fun _ => ?_⟩
        · have hne : ¬ cz c (k / 3) = -1 := by rw [q3]; exact n_m1 (by omega)
          rw [if_neg (show ¬ false = true by decide), if_neg hne]
          rfl
        · rw [if_neg (fun z => absurd z.1 (by decide))]
          refine ⟨ho, by omega, ?_, ?_, p3, fun z => by omega, ?_⟩
          · show (2 : Int32) = _
            rw [show (k + 1) % 3 = 2 by omega]
            rfl
          · show nI (k / 3 + 1) = _
            rw [show (k + 1 + 1) / 3 = k / 3 + 1 by omega]
          · rw [show (k + 1 + 1) / 3 = k / 3 + 1 by omega]
            intro i hi
            show upd (T.2.1 4) (k / 3) (cz c (k / 3)) i = _ ∧ _
            rw [upd_at]
            by_cases hi2 : i = k / 3
            · rw [if_pos hi2, hi2]
              exact ⟨rfl, q, q2, q3⟩
            · rw [if_neg hi2]
              exact p5 i (by omega)
      · refine ⟨T, ?_, o1, fun hg => absurd hg (by decide)⟩
        rw [if_pos rfl]
        rfl
    · have q1 : cel (nI (c (k - 1)) - 48) (nI (c k) - 48) = -1 := by
        unfold cel
        rw [s48 (by omega), s48 hx, if_neg (by omega)]
      rw [q1, decide_eq_false hz, Bool.false_and]
      have ha : anyB (fun i => decide (T.2.1 4 i = -1)) ((k + 1) / 3) = false := by
        rw [anyB_congr (q := fun _ => false) (fun i hi => ?_)]
        · cases hb : anyB (fun _ => false) ((k + 1) / 3)
          · rfl
          · obtain ⟨_, _, hf⟩ := anyB_iff.mp hb
            exact absurd hf (by decide)
        · obtain ⟨r1, q, r2, r3⟩ := p5 i hi
          rw [r1, r3]
          exact decide_eq_false (n_m1 (by omega))
      rw [ha, if_neg (show ¬ false = true by decide), if_pos rfl]
      exact ⟨_, rfl, (ob_I rfl).trans ((ob_I rfl).trans ((ob_A rfl).trans o1)), fun hg => absurd hg (by decide)⟩
  · rw [h3, if_neg (show ¬ nI 2 = (0 : Int32) by decide), if_neg (show ¬ nI 2 = (1 : Int32) by decide), if_pos (show nI 2 = (2 : Int32) from rfl), bS, s_tAS (a := (k + 1) / 3) (by omega) p2 hx, bS, if_neg (show ¬ (2 : Nat) = 0 by decide), if_neg (show ¬ (2 : Nat) = 1 by decide), fin01]
    have hd : decide (c k = 59 ∨ (c k = 44 ∧ (k + 1) / 3 < 6)) = decide (c k = 59 ∨ (c k = 44 ∧ k < 17)) := by
      by_cases hz : c k = 59 ∨ (c k = 44 ∧ k < 17)
      · rw [decide_eq_true hz, decide_eq_true (by omega)]
      · rw [decide_eq_false hz, decide_eq_false (by omega)]
    rw [hd]
    have ho : ob (uI T 3 7 (if c k = 59 then 3 else 0)) = ob S := (ob_I rfl).trans o1
    refine ⟨_, rfl, ho, fun hg => ?_⟩
    have hg' := of_decide_eq_true hg
    by_cases h59 : c k = 59
    · rw [if_pos (show (2 : Nat) = 2 ∧ c k = 59 from ⟨rfl, h59⟩)]
      refine ⟨ho, ⟨h3, e1, by omega, by omega⟩, ?_, p2, ?_, p5, fun i hi => by omega, fun i hi => by omega, fun i hi => by omega⟩
      · show (if c k = 59 then (3 : Int32) else 0) = _
        rw [if_pos h59, show (k + 1 - k - 1) % 4 = 0 by omega]
        rfl
      · show T.1 3 5 = _
        rw [p3, show (k + 1 - k) / 4 = 0 by omega]
    · rw [if_neg (fun z => h59 z.2)]
      refine ⟨ho, by omega, ?_, ?_, p3, fun z => by omega, ?_⟩
      · show (if c k = 59 then (3 : Int32) else 0) = _
        rw [if_neg h59, show (k + 1) % 3 = 0 by omega]
        rfl
      · show T.1 3 4 = _
        rw [p2, show (k + 1 + 1) / 3 = (k + 1) / 3 by omega]
      · rw [show (k + 1 + 1) / 3 = (k + 1) / 3 by omega]
        exact p5
def CS (S T : mT) (c : Nat → Nat) (e k : Nat) : Prop := if e = 0 then CA S T c k else CB S T c e k
theorem c_read {S : mT} {c : Nat → Nat} {L : Nat} (hc : ∀ i, i < L → S.2.1 2 i = nI (c i) ∧ c i < 127) (hL : L ≤ 36) : ∀ (d k e m : Nat) (T : mT), k + d = L → CS S T c e k → ob T = ob S → d < m → ∃ T', f_X5_read_L30 3 (some 1) (nI L) m (nI k) (mk T) = some (if (rd c d e k).1 = L then .inr (mk T') else .inl (nI (rd c d e k).1, mk T')) ∧ ob T' = ob S ∧ ((rd c d e k).1 = L → CS S T' c (rd c d e k).2 L)
  | 0, k, e, m, T, hk, hs, ho, hm => by
    obtain ⟨q, rfl⟩ : ∃ q, m = q + 1 := ⟨m - 1, by omega⟩
    have hkL : k = L := by omega
    subst hkL
    refine ⟨T, ?_, ho, fun _ => hs⟩
    simp only [f_X5_read_L30]
    rw [if_pos (show nI k ≤ nI k by rw [n_le (by omega) (by omega)]; omega), rd, if_pos rfl]
  | d + 1, k, e, m, T, hk, hs, ho, hm => by
    obtain ⟨q, rfl⟩ : ∃ q, m = q + 1 := ⟨m - 1, by omega⟩
    have hr : T.2.1 2 k = nI (c k) := by rw [ob_a ho rfl]; exact (hc k (by omega)).1
    have hx := (hc k (by omega)).2
    simp only [f_X5_read_L30]
    rw [if_neg (show ¬ nI L ≤ nI k by rw [n_le (by omega) (by omega)]; omega), rR_1_0, bS, s_at (aG_2 T) (by decide) (by omega), bS, hr, kk_3, bS, nI_1, rd]
    unfold CS at hs
    by_cases h0 : e = 0
    · rw [if_pos h0] at hs
      rw [if_pos h0]
      obtain ⟨T', t1, t2, t3⟩ := c_stepA hx hs
      rw [t1, bS]
      by_cases hg : goodA c k = true
      · rw [if_pos hg, if_pos hg, if_neg (show ¬ (1 : Int32) = 0 by decide)]
        refine c_read hc hL d (k + 1) _ q T' (by omega) ?_ t2 (by omega)
        have := t3 hg
        unfold CS
        by_cases h5 : k % 3 = 2 ∧ c k = 59
        · rw [if_pos h5] at this
          rw [if_pos h5, if_neg (by omega)]
          exact this
        · rw [if_neg h5] at this
          rw [if_neg h5, if_pos rfl]
          exact this
      · rw [if_neg hg, if_neg hg, if_pos rfl]
        refine ⟨T', ?_, t2, fun z => absurd z (show ¬ k = L by omega)⟩
        rw [if_neg (show ¬ (k, 0).1 = L from (by omega : ¬ k = L))]
    · rw [if_neg h0] at hs
      rw [if_neg h0]
      obtain ⟨T', t1, t2, t3⟩ := c_stepB hx hs
      rw [t1, bS]
      by_cases hg : goodB c e k = true
      · rw [if_pos hg, if_pos hg, if_neg (show ¬ (1 : Int32) = 0 by decide)]
        refine c_read hc hL d (k + 1) e q T' (by omega) ?_ t2 (by omega)
        unfold CS
        rw [if_neg h0]
        exact t3 hg
      · rw [if_neg hg, if_neg hg, if_pos rfl]
        refine ⟨T', ?_, t2, fun z => absurd z (show ¬ k = L by omega)⟩
        rw [if_neg (show ¬ (k, e).1 = L from (by omega : ¬ k = L))]
theorem c_readAll {S : mT} {c : Nat → Nat} {L : Nat} (hc : ∀ i, i < L → S.2.1 2 i = nI (c i) ∧ c i < 127) (hL : L ≤ 36) (eL : S.1 1 1 = nI L) : ∃ T', f_X5_read 3 (some 1) (mk S) = some (nI (rd c L 0 0).1, mk T') ∧ ob T' = ob S ∧ ((rd c L 0 0).1 = L → CS S T' c (rd c L 0 0).2 L) := by
  have ho : ob (uI (uI (uI S 3 4 0) 3 5 0) 3 7 0) = ob S := (ob_I rfl).trans ((ob_I rfl).trans (ob_I rfl))
  obtain ⟨T', t1, t2, t3⟩ := c_read hc hL L 0 0 mFuel (uI (uI (uI S 3 4 0) 3 5 0) 3 7 0) (by omega) (by
    unfold CS
    rw [if_pos rfl]
    exact ⟨ho, by omega, rfl, rfl, rfl, fun z => absurd z (by decide), fun i hi => absurd hi (by omega)⟩) ho (by unfold mFuel; omega)
  refine ⟨T', ?_, t2, t3⟩
  unfold f_X5_read f_X5_read_J27
  rw [wI_3_4, bS, wI_3_5, bS, wI_3_7, bS, oC_s, rI_1_1, bS, show (uI (uI (uI S 3 4 0) 3 5 0) 3 7 0).1 1 1 = nI L from eL, show f_X5_read_L30 3 (some 1) (nI L) mFuel 0 (mk (uI (uI (uI S 3 4 0) 3 5 0) 3 7 0)) = _ from t1, bS]
  by_cases h : (rd c L 0 0).1 = L
  · rw [if_pos h, h]
  · rw [if_neg h]
