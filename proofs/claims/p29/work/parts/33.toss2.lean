def tsC (S : mT) (j nw : Nat) (v : Int32) : mT := uA (uI (uI (uI S 9 7 (S.1 9 7 ||| nI nw)) 9 9 (S.1 9 9 - v)) 9 11 (S.1 9 11 + 1)) 15 (upd (S.2.1 15) j (S.2.1 15 j + 1))
theorem c_toss {S : mT} {n t j x : Nat} (hn : n ≤ 6) (ht : t ≤ 4) (hn0 : n ≠ 0) (e : S.1 0 7 = nI n) (e2 : S.1 0 8 = nI t) (hK : KR S t) (hj : j < t) (hC : NCells S n 9 rNow) (hT : NTurn S t 9 rNow)  (e4 : S.1 9 11 = nI x) (hx : x ≤ 999) {kd : Nat} (hk : kd ≤ 4) {p : Nat → Bool} (e3 : S.1 9 7 = nI (bN p n)) (ek : S.2.1 44 j = nI kd) (y : Int32) (hy : 0 ≤ y.toInt ∧ y.toInt ≤ 35) : f_X10_toss 0 (nI j) y (mk S) = some (if bat kd ≤ S.1 9 9 then (if x = 999 then (-104, mk S) else (nI (pop (wo (bN (cvr S j y (S.1 9 8)) n) (bN p n))), mk (tsC S j (wo (bN (cvr S j y (S.1 9 8)) n) (bN p n)) (bat kd)))) else (-103, mk S)) := by
  obtain ⟨kd', e0, g1, g2, g3, g4⟩ := hK j hj
  have hkk : kd' = kd := by
    have h1 := g2.symm.trans ek
    rw [n_eq (by omega) (by omega)] at h1
    exact h1
  subst hkk
  have h4 : j < 4 := by omega
  have key : ∀ T1 T2 T3 : mT, T1 = uI S 9 7 (S.1 9 7 ||| (nI (bN (cvr S j y (S.1 9 8)) n) &&& (S.1 9 7 ^^^ (-1)))) → T2 = uI T1 9 9 (T1.1 9 9 - bat kd') → T3 = uI T2 9 11 (T2.1 9 11 + 1) → f_X10_toss 0 (nI j) y (mk S) = some (if bat kd' ≤ S.1 9 9 then (if x = 999 then (-104, mk S) else (nI (pop (wo (bN (cvr S j y (S.1 9 8)) n) (bN p n))), mk (uA T3 15 (upd (T3.2.1 15) j (T3.2.1 15 j + 1))))) else (-103, mk S)) := by
    intro T1 T2 T3 h1 h2 h3
    unfold f_X10_toss f_X10_toss_J18
    refine bnd (kk_0 _) ?_
    refine bnd (s_taS ht e2 hj) ?_
    rw [g3, oC_s]
    refine bnd (kk_0 _) ?_
    refine bnd (s_isCellC hn e y) ?_
    rw [if_pos (show n ≠ 0 ∧ 0 ≤ y.toInt ∧ y.toInt ≤ 35 from ⟨hn0, hy⟩), if_neg (by decide)]
    refine bnd (rR_0_3 _) ?_
    refine bnd (rI_9_9 _) ?_
    refine bnd (s_batC g1 g4) ?_
    by_cases hb : bat kd' ≤ S.1 9 9
    · rw [if_pos hb, if_pos hb]
      refine bnd (rR_0_3 _) ?_
      refine bnd (rI_9_11 _) ?_
      by_cases h9 : x = 999
      · rw [if_pos h9, e4, h9, if_neg (by decide)]
      · rw [if_neg h9, if_pos (show S.1 9 11 < (999 : Int32) by rw [e4, show (999 : Int32) = nI 999 from rfl, n_lt (by omega) (by omega)]; omega)]
        refine bnd (rR_0_3 _) ?_
        refine bnd (rI_9_8 _) ?_
        refine bnd (kk_0 _) ?_
        refine bnd (s_crw hn ht e e2 hK hj hC hT y _) ?_
        refine bnd (rR_0_3 _) ?_
        refine bnd (rI_9_7 _) ?_
        refine bnd (rR_0_3 _) ?_
        refine bnd (rI_9_7 _) ?_
        refine bnd ((wI_9_7 _ _).trans (congrArg (fun x => some (mk x)) h1.symm)) ?_
        refine bnd (rR_0_3 _) ?_
        refine bnd (rI_9_9 _) ?_
        refine bnd (s_batC g1 (by rw [h1]; exact g4)) ?_
        refine bnd ((wI_9_9 _ _).trans (congrArg (fun x => some (mk x)) h2.symm)) ?_
        refine bnd (rR_0_3 _) ?_
        refine bnd (rI_9_11 _) ?_
        refine bnd ((wI_9_11 _ _).trans (congrArg (fun x => some (mk x)) h3.symm)) ?_
        refine bnd (rR_0_3 _) ?_
        refine bnd (rR_9_5 _) ?_
        refine bnd (rR_0_3 _) ?_
        refine bnd (rR_9_5 _) ?_
        refine bnd (s_at (aG_15 _) (by decide) h4) ?_
        refine bnd ((s_put (aG_15 _) (by decide) h4 _).trans (congrArg some (aW_15 _ _))) ?_
        rw [e3, n_wo (bN_lt64 hn) (bN_lt64 hn)]
        refine bnd (s_bc (Nat.lt_of_le_of_lt (wo_le _ _) (bN_lt64 hn)) _) ?_
        rfl
    · rw [if_neg hb, if_neg hb]
  rw [key _ _ _ rfl rfl rfl]
  rw [e3, n_wo (bN_lt64 hn) (bN_lt64 hn)]
  unfold tsC
  rw [e3]
  rfl
theorem wo_open {S : mT} {n a : Nat} (hn : n ≤ 6) {p : Nat → Bool} (ha : a = bN p n) (hB : ∀ i, i < n → S.2.1 41 i = 0 ∨ S.2.1 41 i = 1) : a &&& bN (opn S) n = wo a (bN (cvB S 41) n) := by
  have ha6 : a < 64 := by rw [ha]; exact bN_lt64 hn
  refine n_ext (and64 ha6) (Nat.lt_of_le_of_lt (wo_le _ _) ha6) fun k hk => ?_
  rw [wo_bit ha6 (bN_lt64 hn) hk, Nat.testBit_and, ha, bN_bit, bN_bit, bN_bit]
  by_cases hkn : k < n
  · simp only [hkn, decide_true, Bool.true_and]
    unfold opn cvB
    rcases hB k hkn with h | h
    · rw [h]; simp
    · rw [h]; simp
  · simp [hkn]
