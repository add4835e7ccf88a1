-- a toss, as the law does it
theorem Inv.mono {S : mT} {n t m q : Nat} (h : Inv n t m q S) (hm : m < 30) : Inv n t (m + 1) q S := by
  obtain ⟨⟨a1, a2, a3, a4⟩, hb, hK, hC, hM, hV, hT, hH, ⟨n1, n2, ⟨n3, x, n4, n5⟩, y, n6, n7⟩⟩ := h
  exact ⟨⟨a1, a2, by omega, a4⟩, hb, hK, hC, hM, hV, hT, hH, ⟨n1, n2, ⟨n3, x, by omega, n5⟩, y, by omega, n7⟩⟩
theorem sm_upd {f : Nat → Int32} {j : Nat} : ∀ {t : Nat}, j < t → sm (upd f j (f j + 1)) t = sm f t + 1
  | 0, h => absurd h (by omega)
  | t + 1, h => by
    show sm (upd f j (f j + 1)) t + upd f j (f j + 1) t = sm f t + f t + 1
    rw [upd_at]
    by_cases ht : t = j
    · subst ht
      rw [if_pos rfl, sm_congr (g := f) (fun i hi => by rw [upd_at, if_neg (by omega)]), Int32.add_assoc]
    · rw [if_neg ht, sm_upd (by omega), Int32.add_assoc, Int32.add_comm 1, ← Int32.add_assoc]
def cov3 (S : mT) (n a : Nat) : Nat → Int32 := cpy n (fun k => if a.testBit k = true then 1 else S.2.1 41 k) (S.2.1 41)
theorem l_tossL {S : mT} {n a : Nat} (hn : n ≤ 6) (ha : a < 64) (e : S.1 38 3 = nI n) (v5 v6 : Int32) : f_L_does_L174 (some 0) (some 38) (some 39) v5 v6 (nI a) mFuel 0 (mk S) = some (mk (uA S 41 (cov3 S n a))) := by
  have hl := loopK (fun m k => f_L_does_L174 (some 0) (some 38) (some 39) v5 v6 (nI a) m (nI k) (mk (uA S 41 (cov3 S k a)))) n (mk (uA S 41 (cov3 S n a))) ?_ (fun m => ?he) mFuel (by unfold mFuel; omega)
  case he =>
    simp only [f_L_does_L174]
    refine bnd (b0_L _) ?_
    rw [uA_1, e, if_pos (show nI n ≤ nI n by rw [n_le (by omega) (by omega)]; omega)]
  · have h0 : uA S 41 (cov3 S 0 a) = S := by
      unfold cov3
      rw [cpy_0, uA_id]
    rw [h0] at hl
    exact hl
  · intro m k hk
    have h6 : k < 6 := by omega
    simp only [f_L_does_L174, f_L_does_J200]
    refine bnd (b0_L _) ?_
    rw [uA_1, e, if_neg (show ¬ nI n ≤ nI k by rw [n_le (by omega) (by omega)]; omega)]
    refine bnd (l_in ha h6 _) ?_
    have hs : upd (cov3 S k a) k (if a.testBit k = true then 1 else S.2.1 41 k) = cov3 S (k + 1) a := cpy_s (s := fun k => if a.testBit k = true then 1 else S.2.1 41 k)
    by_cases hb : a.testBit k = true
    · rw [if_pos hb, if_neg (by decide)]
      refine bnd (dp6_S _ h6 _) ?_
      rw [uA_s, uA_u, nI_1, ← hs, if_pos hb]
    · rw [if_neg hb, if_pos rfl, nI_1, ← hs, if_neg hb]
      have hz : upd (cov3 S k a) k (S.2.1 41 k) = cov3 S k a := by
        funext j
        show (if j = k then S.2.1 41 k else cov3 S k a j) = cov3 S k a j
        by_cases hj : j = k
        · rw [if_pos hj, hj]
          exact cpy_at.symm
        · rw [if_neg hj]
      rw [hz]
theorem op_J113 {S : mT} {n t m q j : Nat} (h : Inv n t m q S) (hm : m < 30) (hj : j < t) {y : Int32} (hy : 0 ≤ y.toInt ∧ y.toInt ≤ 35) : ∃ S' : mT, f_L_does_J113 (some 0) (some 38) (some 39) (nI j) y (mk S) = some (1, mk S') ∧ Inv n t (m + 1) q S' := by
  obtain ⟨⟨⟨a1, a2⟩, ⟨a3, a4⟩, a5, a6, a7⟩, ⟨b1, b2, b3, b4⟩, hK, hC, hM, ⟨hB, hV⟩, hT, ⟨hH1, hH2⟩, ⟨⟨n1, n2⟩, n3, ⟨n4, x1, n5, n6⟩, x, n7, n8⟩⟩ := id h
  have n1' : S.1 9 8 = S.1 38 5 := n1
  have n3' : S.1 9 9 = S.1 38 6 := n3
  have h4 : j < 4 := by omega
  obtain ⟨kd, e0, k1, k2, k3, k4⟩ := hK j hj
  by_cases hb : bat kd ≤ S.1 38 6
  · have hA : bN (cvr S j y (S.1 38 5)) n < 64 := bN_lt64 a2
    have hw : wo (bN (cvr S j y (S.1 38 5)) n) (bN (cvB S 41) n) < 64 := Nat.lt_of_le_of_lt (wo_le _ _) hA
    generalize hnw : wo (bN (cvr S j y (S.1 38 5)) n) (bN (cvB S 41) n) = nw at hw
    have key : ∀ T1 T2 T3 : mT, T1 = uA S 41 (cov3 S n nw) → T2 = uI T1 38 6 (S.1 38 6 - bat kd) → T3 = uA T2 47 (upd (S.2.1 47) j (S.2.1 47 j + 1)) → f_L_does_J113 (some 0) (some 38) (some 39) (nI j) y (mk S) = some (1, mk (tsC T3 j nw (bat kd))) := by
      intro T1 T2 T3 h1 h2 h3
      unfold f_L_does_J113 f_L_does_J254
      refine bnd (d37_L _) ?_
      refine bnd (bp2_L _ h4) ?_
      rw [k2]
      refine bnd (l_batter k1 _) ?_
      rw [if_pos hb]
      refine bnd (d36_L _) ?_
      refine bnd (l_covers a2 a4 b2 hK hj hC _ _) ?_
      refine bnd (l_bare a2 b2) ?_
      rw [n_and, wo_open a2 rfl hB, hnw]
      refine bnd ((l_tossL a2 hw b2 _ _).trans (congrArg (fun x => some (mk x)) h1.symm)) ?_
      refine bnd (d37_L _) ?_
      refine bnd (bp2_L _ h4) ?_
      rw [show T1.2.1 44 j = nI kd by rw [h1]; exact k2, show T1.1 38 6 = S.1 38 6 by rw [h1]; rfl]
      refine bnd (l_batter k1 _) ?_
      refine bnd ((d37_S _ _).trans (congrArg (fun x => some (mk x)) h2.symm)) ?_
      refine bnd (dp32_L _ h4) ?_
      rw [show T2.2.1 47 j = S.2.1 47 j by rw [h2, h1]; rfl]
      refine bnd ((dp32_S _ h4 _).trans (congrArg (fun x => some (mk x)) (show uA T2 47 (upd (T2.2.1 47) j (S.2.1 47 j + 1)) = T3 by rw [h3, h2, h1]; rfl))) ?_
      refine bnd (kk_0 _) ?_
      have hc := c_toss (S := T3) (n := n) (t := t) (j := j) (x := x) (kd := kd) (p := cvB S 41) a2 a4 (by omega) (by rw [h3, h2, h1]; exact b1) (by rw [h3, h2, h1]; exact b3) (by rw [h3, h2, h1]; exact hK) hj (by rw [h3, h2, h1]; exact hC) (by rw [h3, h2, h1]; exact hT) (by rw [h3, h2, h1]; exact n8) (by omega) k1 (by rw [h3, h2, h1]; exact hV) (by rw [h3, h2, h1]; exact k2) y hy
      rw [if_pos (show bat kd ≤ T3.1 9 9 by rw [h3, h2, h1]; show bat kd ≤ S.1 9 9; rw [n3']; exact hb), if_neg (show ¬ x = 999 by omega), show cvr T3 j y (T3.1 9 8) = cvr S j y (S.1 38 5) by rw [h3, h2, h1, ← n1']; rfl, hnw] at hc
      refine bnd hc ?_
      refine bnd (l_size hw _) ?_
      refine (if_pos rfl).trans ?_
      exact if_pos (Or.inr rfl)
    refine ⟨_, key _ _ _ rfl rfl rfl, ⟨⟨a1, a2⟩, ⟨a3, a4⟩, by omega, a6, a7⟩, ⟨b1, b2, b3, b4⟩, hK, hC, hM, ⟨fun i hi => ?_, ?_⟩, hT, ⟨fun i hi => ?_, ?_⟩, ⟨n1, n2⟩, ?_, ⟨n4, x1, by omega, n6⟩, x + 1, by omega, ?_⟩
    · show cov3 S n nw i = 0 ∨ cov3 S n nw i = 1
      unfold cov3
      rw [cpy_lt hi]
      by_cases hb2 : nw.testBit i = true
      · rw [if_pos hb2]; exact Or.inr rfl
      · rw [if_neg hb2]; exact hB i hi
    · show S.1 9 7 ||| nI nw = nI (bN (fun i => decide (cov3 S n nw i = 1)) n)
      rw [show S.1 9 7 = nI (bN (cvB S 41) n) from hV, n_or2]
      refine congrArg nI (n_ext (or64 (bN_lt64 a2) hw) (bN_lt64 a2) fun k hk => ?_)
      rw [Nat.testBit_or, bN_bit]
      by_cases hkn : k < n
      · rw [bN_bit]
        simp only [hkn, decide_true, Bool.true_and]
        unfold cov3 cvB
        rw [cpy_lt hkn]
        cases nw.testBit k
        · simp
        · simp
      · rw [← hnw, wo_bit (bN_lt64 a2) (bN_lt64 a2) hk]
        simp [hkn, bN_bit]
    · show upd (S.2.1 15) j (S.2.1 15 j + 1) i = upd (S.2.1 47) j (S.2.1 47 j + 1) i
      rw [upd_at, upd_at, hH1 i hi, hH1 j hj]
    · show S.1 9 11 + 1 = sm (upd (S.2.1 47) j (S.2.1 47 j + 1)) t
      rw [sm_upd hj]
      exact congrArg (· + 1) hH2
    · show S.1 9 9 - bat kd = S.1 38 6 - bat kd
      rw [n3']
    · show S.1 9 11 + 1 = _
      rw [show S.1 9 11 = nI x from n8, nI_1]
  · refine ⟨S, ?_, h.mono hm⟩
    unfold f_L_does_J113 f_L_does_J149
    refine bnd (d37_L _) ?_
    refine bnd (bp2_L _ h4) ?_
    rw [k2]
    refine bnd (l_batter k1 _) ?_
    rw [if_neg hb]
    refine bnd (kk_0 _) ?_
    have hc := c_toss (S := S) (n := n) (t := t) (j := j) (x := x) (kd := kd) (p := cvB S 41) a2 a4 (by omega) b1 b3 hK hj hC hT n8 (by omega) k1 hV k2 y hy
    rw [if_neg (show ¬ bat kd ≤ S.1 9 9 by rw [n3']; exact hb)] at hc
    refine bnd hc ?_
    refine (if_pos rfl).trans ?_
    exact if_pos (Or.inr rfl)
theorem op_J90 {S : mT} {n t m q j : Nat} (h : Inv n t m q S) (hm : m < 30) (hj : j < t) (y : Int32) : ∃ S' : mT, f_L_does_J90 (some 0) (some 38) (some 39) (nI j) y (mk S) = some (1, mk S') ∧ Inv n t (m + 1) q S' := by
  unfold f_L_does_J90
  by_cases h1 : 0 ≤ y
  · rw [if_pos h1]
    by_cases h2 : y ≤ (35 : Int32)
    · rw [if_pos h2]
      rw [le_T] at h1 h2
      exact op_J113 h hm hj ⟨h1, h2⟩
    · rw [if_neg h2]
      exact op_J113 h hm hj (by decide)
  · rw [if_neg h1]
    exact op_J113 h hm hj (by decide)
