def tsC (S : mT) (j nw : Nat) (v : Int32) : mT := uA (uI (uI (uI S 9 7 (S.1 9 7 ||| nI nw)) 9 9 (S.1 9 9 - v)) 9 11 (S.1 9 11 + 1)) 15 (upd (S.2.1 15) j (S.2.1 15 j + 1))
def tsR (S : mT) (n j nw : Nat) (v : Int32) : mT := uA (uI (uI (uA S 41 (cov2 S n nw)) 38 6 (S.1 38 6 - v)) 38 8 (S.1 38 8 + 1)) 47 (upd (S.2.1 47) j (S.2.1 47 j + 1))
theorem c_toss {S : mT} {n t j x : Nat} (hn : n ≤ 6) (ht : t ≤ 4) (hn0 : n ≠ 0) (e : S.1 0 7 = nI n) (e2 : S.1 0 8 = nI t) (hK : KR S t) (hj : j < t) (hC : NCells S n 9 rNow) (hT : NTurn S t 9 rNow) (e3 : S.1 9 7 = nI (bN (cvB S 41) n)) (e4 : S.1 9 11 = nI x) (hx : x ≤ 999) {kd : Nat} (hk : kd ≤ 4) (ek : S.2.1 44 j = nI kd) (y : Int32) (hy : 0 ≤ y.toInt ∧ y.toInt ≤ 35) : f_X10_toss 0 (nI j) y (mk S) = some (if bat kd ≤ S.1 9 9 then (if x = 999 then (-104, mk S) else (nI (pop (wo (bN (cvr S j y (S.1 9 8)) n) (bN (cvB S 41) n))), mk (tsC S j (wo (bN (cvr S j y (S.1 9 8)) n) (bN (cvB S 41) n)) (bat kd)))) else (-103, mk S)) := by
  obtain ⟨kd', e0, g1, g2, g3, g4⟩ := hK j hj
  have hkk : kd' = kd := by
    have h1 := g2.symm.trans ek
    rw [n_eq (by omega) (by omega)] at h1
    exact h1
  subst hkk
  have h4 : j < 4 := by omega
  have key : ∀ T1 T2 T3 : mT, T1 = uI S 9 7 (S.1 9 7 ||| (nI (bN (cvr S j y (S.1 9 8)) n) &&& (S.1 9 7 ^^^ (-1)))) → T2 = uI T1 9 9 (T1.1 9 9 - bat kd') → T3 = uI T2 9 11 (T2.1 9 11 + 1) → f_X10_toss 0 (nI j) y (mk S) = some (if bat kd' ≤ S.1 9 9 then (if x = 999 then (-104, mk S) else (nI (pop (wo (bN (cvr S j y (S.1 9 8)) n) (bN (cvB S 41) n))), mk (uA T3 15 (upd (T3.2.1 15) j (T3.2.1 15 j + 1))))) else (-103, mk S)) := by
    intro T1 T2 T3 h1 h2 h3
    unfold f_X10_toss f_X10_toss_J18
    refine bnd (kk_0 _) ?_
    refine bnd (s_taS ht e2 hj) ?_
    rw [g3, oC_s]
    refine bnd (kk_0 _) ?_
    refine bnd (s_isCellC hn e y) ?_
    rw [if_pos (show n ≠ 0 ∧ 0 ≤ y.toInt ∧ y.toInt ≤ 35 from ⟨hn0, hy⟩), if_neg (by decide)]
    refine bnd (rR_0_3 _) ?_
    refine bnd (rI_9_9 _) ?_
    refine bnd (s_batC g1 g4) ?_
    by_cases hb : bat kd' ≤ S.1 9 9
    · rw [if_pos hb, if_pos hb]
      refine bnd (rR_0_3 _) ?_
      refine bnd (rI_9_11 _) ?_
      by_cases h9 : x = 999
      · rw [if_pos h9, e4, h9, if_neg (by decide)]
      · rw [if_neg h9, if_pos (show S.1 9 11 < (999 : Int32) by rw [e4, show (999 : Int32) = nI 999 from rfl, n_lt (by omega) (by omega)]; omega)]
        refine bnd (rR_0_3 _) ?_
        refine bnd (rI_9_8 _) ?_
        refine bnd (kk_0 _) ?_
        refine bnd (s_crw hn ht e e2 hK hj hC hT y _) ?_
        refine bnd (rR_0_3 _) ?_
        refine bnd (rI_9_7 _) ?_
        refine bnd (rR_0_3 _) ?_
        refine bnd (rI_9_7 _) ?_
        refine bnd ((wI_9_7 _ _).trans (congrArg (fun x => some (mk x)) h1.symm)) ?_
        refine bnd (rR_0_3 _) ?_
        refine bnd (rI_9_9 _) ?_
        refine bnd (s_batC g1 (by rw [h1]; exact g4)) ?_
        refine bnd ((wI_9_9 _ _).trans (congrArg (fun x => some (mk x)) h2.symm)) ?_
        refine bnd (rR_0_3 _) ?_
        refine bnd (rI_9_11 _) ?_
        refine bnd ((wI_9_11 _ _).trans (congrArg (fun x => some (mk x)) h3.symm)) ?_
        refine bnd (rR_0_3 _) ?_
        refine bnd (rR_9_5 _) ?_
        refine bnd (rR_0_3 _) ?_
        refine bnd (rR_9_5 _) ?_
        refine bnd (s_at (aG_15 _) (by decide) h4) ?_
        refine bnd ((s_put (aG_15 _) (by decide) h4 _).trans (congrArg some (aW_15 _ _))) ?_
        rw [e3, n_wo (bN_lt64 hn) (bN_lt64 hn)]
        refine bnd (s_bc (Nat.lt_of_le_of_lt (wo_le _ _) (bN_lt64 hn)) _) ?_
        rfl
    · rw [if_neg hb, if_neg hb]
  rw [key _ _ _ rfl rfl rfl]
  rw [e3, n_wo (bN_lt64 hn) (bN_lt64 hn)]
  unfold tsC
  rw [e3]
  rfl
theorem wo_open {S : mT} {n a : Nat} (hn : n ≤ 6) {p : Nat → Bool} (ha : a = bN p n) (hB : ∀ i, i < n → S.2.1 41 i = 0 ∨ S.2.1 41 i = 1) : a &&& bN (opn S) n = wo a (bN (cvB S 41) n) := by
  have ha6 : a < 64 := by rw [ha]; exact bN_lt64 hn
  refine n_ext (and64 ha6) (Nat.lt_of_le_of_lt (wo_le _ _) ha6) fun k hk => ?_
  rw [wo_bit ha6 (bN_lt64 hn) hk, Nat.testBit_and, ha, bN_bit, bN_bit, bN_bit]
  by_cases hkn : k < n
  · simp only [hkn, decide_true, Bool.true_and]
    unfold opn cvB
    rcases hB k hkn with h | h
    · rw [h]; simp
    · rw [h]; simp
  · simp [hkn]
theorem r_toss {S : mT} {n t j x : Nat} (hn : n ≤ 6) (ht : t ≤ 4) (e : S.1 38 3 = nI n) (e2 : S.1 38 4 = nI t) (hK : KR S t) (hj : j < t) (hC : NCells S n 9 rNow) (hB : ∀ i, i < n → S.2.1 41 i = 0 ∨ S.2.1 41 i = 1) (e4 : S.1 38 8 = nI x) (hx : x ≤ 999) {kd : Nat} (hk : kd ≤ 4) (ek : S.2.1 44 j = nI kd) (y : Int32) (hy : 0 ≤ y.toInt ∧ y.toInt ≤ 35) : f_X11_toss 38 (nI j) y (mk S) = some (if bat kd ≤ S.1 38 6 then (if x = 999 then (-104, mk S) else (nI (pop (wo (bN (cvr S j y (S.1 38 5)) n) (bN (cvB S 41) n))), mk (tsR S n j (wo (bN (cvr S j y (S.1 38 5)) n) (bN (cvB S 41) n)) (bat kd)))) else (-103, mk S)) := by
  have h4 : j < 4 := by omega
  have hj' : (nI j).toInt = j := nT (by omega)
  have hw : wo (bN (cvr S j y (S.1 38 5)) n) (bN (cvB S 41) n) < 64 := Nat.lt_of_le_of_lt (wo_le _ _) (bN_lt64 hn)
  have key : ∀ T1 T2 T3 : mT, T1 = uA S 41 (cov2 S n (wo (bN (cvr S j y (S.1 38 5)) n) (bN (cvB S 41) n))) → T2 = uI T1 38 6 (T1.1 38 6 - bat kd) → T3 = uI T2 38 8 (T2.1 38 8 + 1) → f_X11_toss 38 (nI j) y (mk S) = some (if bat kd ≤ S.1 38 6 then (if x = 999 then (-104, mk S) else (nI (pop (wo (bN (cvr S j y (S.1 38 5)) n) (bN (cvB S 41) n))), mk (uA T3 47 (upd (T3.2.1 47) j (T3.2.1 47 j + 1))))) else (-103, mk S)) := by
    intro T1 T2 T3 h1 h2 h3
    unfold f_X11_toss f_X11_toss_J15
    refine bnd (kk_38 _) ?_
    refine bnd (s_isToR ht e2 _) ?_
    rw [if_pos (show 0 ≤ (nI j).toInt ∧ (nI j).toInt < t by omega), if_neg (by decide)]
    refine bnd (s_isCellR _ _) ?_
    rw [if_pos hy, if_neg (by decide)]
    refine bnd (rI_38_6 _) ?_
    refine bnd (rR_38_14 _) ?_
    refine bnd (aL_44 _ h4) ?_
    rw [ek]
    refine bnd (s_batR hk _) ?_
    by_cases hb : bat kd ≤ S.1 38 6
    · rw [if_pos hb, if_pos hb]
      refine bnd (rI_38_8 _) ?_
      by_cases h9 : x = 999
      · rw [if_pos h9, e4, h9, if_pos (show nI 999 = (999 : Int32) from rfl)]
      · rw [if_neg h9, if_neg (show ¬ S.1 38 8 = (999 : Int32) by rw [e4, show (999 : Int32) = nI 999 from rfl, n_eq (by omega) (by omega)]; omega)]
        refine bnd (rI_38_5 _) ?_
        refine bnd (kk_38 _) ?_
        refine bnd (s_covR hn ht e hK hj hC y _) ?_
        refine bnd (kk_38 _) ?_
        refine bnd (s_open hn e) ?_
        rw [n_and, wo_open hn rfl hB]
        refine bnd ((r_tossL hn hw e _).trans (congrArg (fun x => some (mk x)) h1.symm)) ?_
        refine bnd (rI_38_6 _) ?_
        refine bnd (rR_38_14 _) ?_
        refine bnd (aL_44 _ h4) ?_
        rw [show T1.2.1 44 j = nI kd from by rw [h1]; exact ek]
        refine bnd (s_batR hk _) ?_
        refine bnd ((wI_38_6 _ _).trans (congrArg (fun x => some (mk x)) h2.symm)) ?_
        refine bnd (rI_38_8 _) ?_
        refine bnd ((wI_38_8 _ _).trans (congrArg (fun x => some (mk x)) h3.symm)) ?_
        refine bnd (rR_38_17 _) ?_
        refine bnd (aL_47 _ h4) ?_
        refine bnd (aS_47 _ _ h4) ?_
        refine bnd (s_ones hw _) ?_
        rfl
    · rw [if_neg hb, if_neg hb]
  exact key _ _ _ rfl rfl rfl
theorem op_toss {N : Nat} {S : mT} (h : Inv N S) (x y : Int32) : ∃ r S1 S2, f_X10_toss 0 x y (mk S) = some (r, mk S1) ∧ f_X11_toss 38 x y (mk S1) = some (r, mk S2) ∧ Inv N S2 := by
  obtain ⟨n, t, p, L, ⟨a1, a2, a3, a4, a5, a6, a7⟩, ⟨b1, b2, b3, b4, b5, b6, b7, b8⟩, hP, hK, hN, hI⟩ := id h
  by_cases hx : 0 ≤ x.toInt ∧ x.toInt < t
  · obtain ⟨j, h1, rfl, h3⟩ := nI_of' hx.1
    have hj : j < t := by omega
    have hn0 : n ≠ 0 := by omega
    obtain ⟨kd, e0, k1, k2, k3, k4⟩ := hK j hj
    by_cases hy : 0 ≤ y.toInt ∧ y.toInt ≤ 35
    · obtain ⟨g1, g2, g3, ⟨g4, g5⟩, g6, g7, g8, g9, g10, q, hq, g11⟩ := hN
      have g5' : S.1 9 7 = nI (bN (cvB S 41) n) := g5
      have g7' : S.1 9 8 = S.1 38 5 := g7
      have g8' : S.1 9 9 = S.1 38 6 := g8
      have g11' : S.1 38 8 = nI q := g11
      have g10' : S.1 9 11 = nI q := Eq.trans g10 g11
      have hc := c_toss a1 a2 hn0 b1 b3 hK hj g2 g6 g5' g10' hq k1 k2 y hy
      have hr := fun (T : mT) (r3 : T.1 38 3 = nI n) (r4 : T.1 38 4 = nI t) => r_toss (S := T) (n := n) (t := t) (j := j) (x := q) a1 a2 r3 r4
      by_cases hb : bat kd ≤ S.1 9 9
      · by_cases h9 : q = 999
        · rw [if_pos hb, if_pos h9] at hc
          refine ⟨_, _, S, hc, ?_, h⟩
          rw [r_toss a1 a2 b2 b4 hK hj g2 g4 g11' hq k1 k2 y hy, if_pos (g8' ▸ hb), if_pos h9]
        · rw [if_pos hb, if_neg h9] at hc
          have hw : wo (bN (cvr S j y (S.1 9 8)) n) (bN (cvB S 41) n) < 64 := Nat.lt_of_le_of_lt (wo_le _ _) (bN_lt64 a1)
          refine ⟨_, _, tsR (tsC S j (wo (bN (cvr S j y (S.1 9 8)) n) (bN (cvB S 41) n)) (bat kd)) n j (wo (bN (cvr S j y (S.1 9 8)) n) (bN (cvB S 41) n)) (bat kd), hc, ?_, ?_⟩
          · have hr2 := r_toss (S := tsC S j (wo (bN (cvr S j y (S.1 9 8)) n) (bN (cvB S 41) n)) (bat kd)) a1 a2 b2 b4 hK hj g2 g4 g11' hq k1 k2 y hy
            rw [if_pos (show bat kd ≤ (tsC S j (wo (bN (cvr S j y (S.1 9 8)) n) (bN (cvB S 41) n)) (bat kd)).1 38 6 from (g8' ▸ hb : bat kd ≤ S.1 38 6)), if_neg h9] at hr2
            rw [hr2]
            show some (nI (pop (wo (bN (cvr S j y (S.1 38 5)) n) (bN (cvB S 41) n))), mk (tsR _ n j (wo (bN (cvr S j y (S.1 38 5)) n) (bN (cvB S 41) n)) (bat kd))) = _
            rw [g7']
          · refine ⟨n, t, p, L, ⟨a1, a2, a3, a4, a5, a6, a7⟩, ⟨b1, b2, b3, b4, b5, b6, b7, b8⟩, hP, hK, ⟨g1, g2, g3, ⟨fun i hi => ?_, ?_⟩, fun i hi => ?_, g7, ?_, g9, ?_, q + 1, by omega, ?_⟩, hI⟩
            · show cov2 S n (wo (bN (cvr S j y (S.1 9 8)) n) (bN (cvB S 41) n)) i = 0 ∨ cov2 S n (wo (bN (cvr S j y (S.1 9 8)) n) (bN (cvB S 41) n)) i = 1
              unfold cov2
              rw [cpy_lt hi]
              have h01 : ∀ b : Bool, ∀ v : Int32, v = 0 ∨ v = 1 → (v ||| (if b = true then 1 else 0)) = 0 ∨ (v ||| (if b = true then 1 else 0)) = 1 := by
                intro b v hv
                rcases hv with rfl | rfl <;> cases b <;> decide
              exact h01 _ _ (g4 i hi)
            · show S.1 9 7 ||| nI (wo (bN (cvr S j y (S.1 9 8)) n) (bN (cvB S 41) n)) = nI (bN (fun i => decide (cov2 S n (wo (bN (cvr S j y (S.1 9 8)) n) (bN (cvB S 41) n)) i = 1)) n)
              rw [g5', n_or2]
              refine congrArg nI (n_ext (or64 (bN_lt64 a1) hw) (bN_lt64 a1) fun k hk => ?_)
              rw [Nat.testBit_or, bN_bit]
              by_cases hkn : k < n
              · rw [bN_bit]
                simp only [hkn, decide_true, Bool.true_and]
                unfold cov2
                rw [cpy_lt hkn]
                have h01 : ∀ b : Bool, ∀ v : Int32, v = 0 ∨ v = 1 → (decide (v = 1) || b) = decide ((v ||| (if b = true then 1 else 0)) = 1) := by
                  intro b v hv
                  rcases hv with rfl | rfl <;> cases b <;> decide
                exact h01 _ _ (g4 k hkn)
              · rw [wo_bit (bN_lt64 a1) (bN_lt64 a1) hk]
                simp [hkn, bN_bit]
            · obtain ⟨t1, t2, t3⟩ := g6 i hi
              refine ⟨t1, t2, ?_⟩
              show upd (S.2.1 15) j (S.2.1 15 j + 1) i = upd (S.2.1 47) j (S.2.1 47 j + 1) i
              rw [upd_at, upd_at, show S.2.1 15 i = S.2.1 47 i from t3]
              by_cases hij : i = j
              · subst hij
                rw [if_pos rfl, if_pos rfl, show S.2.1 15 i = S.2.1 47 i from t3]
              · rw [if_neg hij, if_neg hij]
            · exact congrArg (· - bat kd) g8
            · exact congrArg (· + 1) g10
            · show S.1 38 8 + 1 = _
              rw [g11', nI_1]
      · rw [if_neg hb] at hc
        refine ⟨_, _, S, hc, ?_, h⟩
        rw [r_toss a1 a2 b2 b4 hK hj g2 g4 g11' hq k1 k2 y hy, if_neg (g8' ▸ hb)]
    · refine ⟨-101, S, S, ?_, ?_, h⟩
      · unfold f_X10_toss f_X10_toss_J18
        rw [kk_0, bS, s_taS a2 b3 hj, bS, k3, oC_s, bS, s_isCellC a1 b1, bS, if_neg (show ¬ (n ≠ 0 ∧ 0 ≤ y.toInt ∧ y.toInt ≤ 35) from fun z => hy z.2), if_pos rfl]
      · unfold f_X11_toss f_X11_toss_J15
        rw [kk_38, bS, s_isToR a2 b4, bS, if_pos hx, if_neg (by decide), s_isCellR, bS, if_neg hy, if_pos rfl]
  · refine ⟨-101, S, S, ?_, ?_, h⟩
    · unfold f_X10_toss f_X10_toss_J18
      rw [kk_0, bS, s_taN a2 b3 hx, bS, oC_n]
    · unfold f_X11_toss f_X11_toss_J15
      rw [kk_38, bS, s_isToR a2 b4, bS, if_neg hx, if_pos rfl]
