-- wind, a morning, one who lies elsewhere, a wrist, batter
theorem op_windL {S : mT} {n t m q r : Nat} (h : Inv n t m q S) (hm : m < 30) (hr : r < 3) : ∃ T S' : mT, aS (mk S) (some 39) (36 : Int32) (nI r - (1 : Int32)) = some (mk T) ∧ T.1 38 5 = nI r - (1 : Int32) ∧ f_X10_wind 0 (nI r - (1 : Int32)) (mk T) = some (S.1 38 5 + 1, mk S') ∧ Inv n t (m + 1) q S' := by
  obtain ⟨⟨⟨a1, a2⟩, ⟨a3, a4⟩, a5, a6⟩, ⟨b1, b2, b3, b4⟩, hK, hC, hM, hV, hT, hH, ⟨⟨n1, n2⟩, n3, ⟨n4, x1, n5, n6⟩, x, n7, n8⟩⟩ := id h
  have hv : (-1 ≤ (nI r - (1 : Int32)).toInt ∧ (nI r - (1 : Int32)).toInt ≤ 1) ∧ (nI r - (1 : Int32) = -1 ∨ nI r - (1 : Int32) = 0 ∨ nI r - (1 : Int32) = 1) := by
    match r, hr with
    | 0, _ => decide
    | 1, _ => decide
    | 2, _ => decide
  refine ⟨uI S 38 5 (nI r - (1 : Int32)), uI (uI S 38 5 (nI r - (1 : Int32))) 9 8 (nI r - (1 : Int32)), d36_S _ _, rfl, ?_, ⟨⟨a1, a2⟩, ⟨a3, a4⟩, by omega, a6⟩, ⟨b1, b2, b3, b4⟩, hK, hC, hM, hV, hT, hH, ⟨rfl, hv.2⟩, n3, ⟨n4, x1, by omega, n6⟩, x, by omega, n8⟩
  have hc := c_wind (S := uI S 38 5 (nI r - (1 : Int32))) a1 a2 b1 hv.1
  rw [show (uI S 38 5 (nI r - (1 : Int32))).1 9 8 = S.1 38 5 from n1] at hc
  exact hc
def mW3 (S : mT) (f g h : Nat → Int32) : mT := uA (uA (uA S 42 f) 43 g) 41 h
theorem mW3_1 {S : mT} {f g h f' : Nat → Int32} : uA (mW3 S f g h) 42 f' = mW3 S f' g h := by
  unfold mW3
  rw [uA_comm (a := 41) (b := 42) (by decide), uA_comm (a := 43) (b := 42) (by decide), uA_u]
theorem mW3_2 {S : mT} {f g h f' : Nat → Int32} : uA (mW3 S f g h) 43 f' = mW3 S f f' h := by
  unfold mW3
  rw [uA_comm (a := 41) (b := 43) (by decide), uA_u]
theorem mW3_3 {S : mT} {f g h f' : Nat → Int32} : uA (mW3 S f g h) 41 f' = mW3 S f g f' := uA_u
theorem mW3_4 {S : mT} {f g h : Nat → Int32} : (mW3 S f g h).2.1 42 = f := rfl
theorem mW3_5 {S : mT} {f g h : Nat → Int32} : (mW3 S f g h).2.1 43 = g := rfl
theorem mW3_6 {S : mT} {f g h : Nat → Int32} : (mW3 S f g h).2.1 41 = h := rfl
theorem mW3_7 {S : mT} {f g h : Nat → Int32} : (mW3 S f g h).1 = S.1 := rfl
theorem l_morn {S : mT} {n : Nat} (hn : n ≤ 6) (e : S.1 38 3 = nI n) : f_L_does_L316 (some 0) (some 38) (some 39) mFuel 0 0 (mk S) = some (sm (S.2.1 41) n, mk (mW3 S (cpy n (fun j => S.2.1 42 j + S.2.1 41 j) (S.2.1 42)) (cpy n (fun j => S.2.1 43 j + (1 - S.2.1 41 j)) (S.2.1 43)) (cpy n (fun _ => 0) (S.2.1 41)))) := by
  have hl := loopK (fun m k => f_L_does_L316 (some 0) (some 38) (some 39) m (sm (S.2.1 41) k) (nI k) (mk (mW3 S (cpy k (fun j => S.2.1 42 j + S.2.1 41 j) (S.2.1 42)) (cpy k (fun j => S.2.1 43 j + (1 - S.2.1 41 j)) (S.2.1 43)) (cpy k (fun _ => 0) (S.2.1 41))))) n ((sm (S.2.1 41) n), (mk (mW3 S (cpy n (fun j => S.2.1 42 j + S.2.1 41 j) (S.2.1 42)) (cpy n (fun j => S.2.1 43 j + (1 - S.2.1 41 j)) (S.2.1 43)) (cpy n (fun _ => 0) (S.2.1 41))))) ?_ (fun m => ?he) mFuel (by unfold mFuel; omega)
  case he =>
    simp only [f_L_does_L316]
    refine bnd (b0_L _) ?_
    rw [mW3_7, e, if_pos (show nI n ≤ nI n by rw [n_le (by omega) (by omega)]; omega)]
  · have h0 : mW3 S (cpy 0 (fun j => S.2.1 42 j + S.2.1 41 j) (S.2.1 42)) (cpy 0 (fun j => S.2.1 43 j + (1 - S.2.1 41 j)) (S.2.1 43)) (cpy 0 (fun _ => 0) (S.2.1 41)) = S := by
      unfold mW3
      rw [cpy_0, cpy_0, cpy_0, uA_id, uA_id, uA_id]
    rw [h0] at hl
    exact hl
  · intro m k hk
    have h6 : k < 6 := by omega
    simp only [f_L_does_L316]
    refine bnd (b0_L _) ?_
    rw [mW3_7, e, if_neg (show ¬ nI n ≤ nI k by rw [n_le (by omega) (by omega)]; omega)]
    refine bnd (dp6_L _ h6) ?_
    refine bnd (dp12_L _ h6) ?_
    refine bnd (dp6_L _ h6) ?_
    rw [mW3_4, mW3_6, cpy_at, cpy_at]
    refine bnd (dp12_S _ h6 _) ?_
    rw [mW3_4, mW3_1]
    refine bnd (dp18_L _ h6) ?_
    refine bnd (dp6_L _ h6) ?_
    rw [mW3_5, mW3_6, cpy_at, cpy_at]
    refine bnd (dp18_S _ h6 _) ?_
    rw [mW3_5, mW3_2]
    refine bnd (dp6_S _ h6 _) ?_
    rw [mW3_6, mW3_3, nI_1]
    rw [← cpy_s (n := k) (s := fun j => S.2.1 42 j + S.2.1 41 j), ← cpy_s (n := k) (s := fun j => S.2.1 43 j + (1 - S.2.1 41 j)), ← cpy_s (n := k) (s := fun _ => (0 : Int32))]
    rfl
def mrd (S : mT) (n : Nat) : mT := uI (mW3 S (cpy n (fun j => S.2.1 42 j + S.2.1 41 j) (S.2.1 42)) (cpy n (fun j => S.2.1 43 j + (1 - S.2.1 41 j)) (S.2.1 43)) (cpy n (fun _ => 0) (S.2.1 41))) 38 7 (S.1 38 7 + 1)
theorem Inv_morn {S : mT} {n t m q : Nat} (h : Inv n t m q S) (hm : m < 30) : f_X10_morning 0 (mk (mrd S n)) = some (sm (S.2.1 41) n, mk (wkC (mrd S n) n (cvB S 41))) ∧ Inv n t (m + 1) q (wkC (mrd S n) n (cvB S 41)) := by
  obtain ⟨⟨⟨a1, a2⟩, ⟨a3, a4⟩, a5, a6⟩, ⟨b1, b2, b3, b4⟩, hK, hC, hM, ⟨hB, hV⟩, hT, hH, ⟨n1, n3, ⟨n4, x, n5, n6⟩, x1, n7, n8⟩⟩ := id h
  have n4' : S.1 9 10 = S.1 38 7 := n4
  have n6' : S.1 38 7 = nI x := n6
  refine ⟨?_, ⟨⟨a1, a2⟩, ⟨a3, a4⟩, by omega, a6⟩, ⟨b1, b2, b3, b4⟩, hK, hC, ?_, ⟨fun i hi => Or.inl (cpy_lt (s := fun _ => (0 : Int32)) (o := S.2.1 41) hi), ?_⟩, hT, hH, n1, n3, ⟨?_, x + 1, by omega, ?_⟩, x1, by omega, n8⟩
  · rw [c_morning (S := mrd S n) (p := cvB S 41) a1 a2 b1 (n4'.trans n6') (by omega) hV, cov_sum a2 hB]
  · intro i hi
    obtain ⟨k1, k2⟩ := hM i hi
    show (i < n → cpy n (fun j => if cvB S 41 j = true then S.2.1 11 j + 1 else S.2.1 11 j) (S.2.1 11) i = cpy n (fun j => S.2.1 42 j + S.2.1 41 j) (S.2.1 42) i ∧ cpy n (fun j => if cvB S 41 j = true then S.2.1 12 j else S.2.1 12 j + 1) (S.2.1 12) i = cpy n (fun j => S.2.1 43 j + (1 - S.2.1 41 j)) (S.2.1 43) i) ∧ (n ≤ i → cpy n (fun j => if cvB S 41 j = true then S.2.1 11 j + 1 else S.2.1 11 j) (S.2.1 11) i = 0 ∧ cpy n (fun j => if cvB S 41 j = true then S.2.1 12 j else S.2.1 12 j + 1) (S.2.1 12) i = 0)
    refine ⟨fun hin => ?_, fun hin => ?_⟩
    · rw [cpy_lt hin, cpy_lt hin, cpy_lt hin, cpy_lt hin]
      obtain ⟨k3, k4⟩ := k1 hin
      rw [show S.2.1 11 i = S.2.1 42 i from k3, show S.2.1 12 i = S.2.1 43 i from k4]
      show (if decide (S.2.1 41 i = 1) = true then S.2.1 42 i + 1 else S.2.1 42 i) = _ ∧ (if decide (S.2.1 41 i = 1) = true then S.2.1 43 i else S.2.1 43 i + 1) = _
      rcases hB i hin with g | g
      · rw [show S.2.1 41 i = 0 from g]
        exact ⟨(n_z _).symm, rfl⟩
      · rw [show S.2.1 41 i = 1 from g]
        exact ⟨rfl, (n_z _).symm⟩
    · show (if i < n then _ else S.2.1 11 i) = 0 ∧ (if i < n then _ else S.2.1 12 i) = 0
      rw [if_neg (by omega), if_neg (by omega)]
      exact k2 hin
  · show (0 : Int32) = nI (bN (fun i => decide (cpy n (fun _ => 0) (S.2.1 41) i = 1)) n)
    exact bN_zero fun k hk => by rw [cpy_lt hk]; rfl
  · show S.1 9 10 + 1 = S.1 38 7 + 1
    rw [n4']
  · show S.1 38 7 + 1 = _
    rw [n6', nI_1]
theorem l_L441 {S : mT} {n t m q i c : Nat} (h : Inv n t m q S) (hi : i < n) (hc : c < 36) : f_L_does_L441 (some 0) (some 38) (some 39) (nI i) (nI c) mFuel 0 (mk S) = some (if anyB (tk (S.2.1 40) i (nI c)) n = true then .inl (1, mk S) else .inr (mk S)) := by
  obtain ⟨⟨⟨a1, a2⟩, ⟨a3, a4⟩, a5, a6⟩, ⟨b1, b2, b3, b4⟩, hK, hC, hM, hV, hT, hH, hN⟩ := id h
  have heq : anyB (tk (S.2.1 10) i (nI c)) n = anyB (tk (S.2.1 40) i (nI c)) n := anyB_congr (fun k hk => by unfold tk; rw [show S.2.1 10 k = S.2.1 40 k from (hC k hk).1])
  refine (loopR (fun m k => f_L_does_L441 (some 0) (some 38) (some 39) (nI i) (nI c) m (nI k) (mk S)) (tk (S.2.1 40) i (nI c)) (fun _ => Sum.inl ((1 : Int32), mk S)) (Sum.inr (mk S)) n 0 mFuel ?_ ?_ (by unfold mFuel; omega)).trans (congrArg some (fst_any (tk (S.2.1 40) i (nI c)) n (Sum.inl ((1 : Int32), mk S)) (Sum.inr (mk S))))
  · intro m k _ hk
    simp only [f_L_does_L441, f_L_does_J484, f_L_does_J483]
    refine bnd (b0_L _) ?_
    rw [b2, if_neg (show ¬ nI n ≤ nI k by rw [n_le (by omega) (by omega)]; omega), nI_1]
    by_cases h1 : k = i
    · rw [if_pos (congrArg nI h1), if_neg (show ¬ tk (S.2.1 40) i (nI c) k = true by unfold tk; simp [h1])]
    · rw [if_neg (show ¬ nI k = nI i by rw [n_eq (by omega) (by omega)]; exact h1)]
      refine bnd (dp0_L _ (show k < 6 by omega)) ?_
      by_cases h2 : S.2.1 40 k = nI c
      · have htk : tk (S.2.1 40) i (nI c) k = true := by unfold tk; simp [h1, h2]
        rw [if_pos h2, if_pos htk]
        refine bnd (kk_0 _) ?_
        refine bnd (c_move a1 a2 b1 hi hc) ?_
        rw [if_pos (show anyB (tk (S.2.1 10) i (nI c)) n = true from heq.trans (anyB_iff.mpr ⟨k, by omega, htk⟩))]
        refine (if_pos rfl).trans ?_
        exact if_pos (Or.inr trivial)
      · rw [if_neg h2, if_neg (show ¬ tk (S.2.1 40) i (nI c) k = true by unfold tk; simp [h2])]
  · intro m
    simp only [f_L_does_L441]
    refine bnd (b0_L _) ?_
    rw [b2, Nat.zero_add, if_pos (show nI n ≤ nI n by rw [n_le (by omega) (by omega)]; omega)]
def mvL (S : mT) (i : Nat) (x : Int32) : mT := uA (uA S 40 (upd (S.2.1 40) i x)) 41 (upd (S.2.1 41) i 0)
theorem Inv_move {S : mT} {n t m q i c : Nat} (h : Inv n t m q S) (hm : m < 30) (hi : i < n) (hc : c < 36) (hno : ¬ anyB (tk (S.2.1 40) i (nI c)) n = true) : f_X10_move 0 (nI i) (nI c) (mk (mvL S i (nI c))) = some (S.2.1 40 i, mk (mvC (mvL S i (nI c)) i (nI c))) ∧ Inv n t (m + 1) q (mvC (mvL S i (nI c)) i (nI c)) := by
  obtain ⟨⟨⟨a1, a2⟩, ⟨a3, a4⟩, a5, a6⟩, ⟨b1, b2, b3, b4⟩, hK, hC, hM, ⟨hB, hV⟩, hT, hH, ⟨n1, n3, ⟨n4, x, n5, n6⟩, x1, n7, n8⟩⟩ := id h
  have heq : anyB (tk (S.2.1 10) i (nI c)) n = anyB (tk (S.2.1 40) i (nI c)) n := anyB_congr (fun k hk => by unfold tk; rw [show S.2.1 10 k = S.2.1 40 k from (hC k hk).1])
  refine ⟨?_, ⟨⟨a1, a2⟩, ⟨a3, a4⟩, by omega, a6⟩, ⟨b1, b2, b3, b4⟩, hK, ?_, hM, ⟨?_, ?_⟩, hT, hH, n1, n3, ⟨n4, x, by omega, n6⟩, x1, by omega, n8⟩
  · rw [c_move (S := mvL S i (nI c)) a1 a2 b1 hi hc, if_neg (show ¬ anyB (tk ((mvL S i (nI c)).2.1 10) i (nI c)) n = true from fun z => hno (heq.symm.trans z))]
    show some (S.2.1 10 i, _) = _
    rw [show S.2.1 10 i = S.2.1 40 i from (hC i hi).1]
  · intro k hk
    show upd (S.2.1 10) i (nI c) k = upd (S.2.1 40) i (nI c) k ∧ ∃ q' : Nat, q' < 36 ∧ upd (S.2.1 40) i (nI c) k = nI q'
    obtain ⟨d1, d2⟩ := hC k hk
    rw [upd_at, upd_at, show S.2.1 10 k = S.2.1 40 k from d1]
    refine ⟨rfl, ?_⟩
    by_cases hki : k = i
    · rw [if_pos hki]; exact ⟨c, hc, rfl⟩
    · rw [if_neg hki]; exact d2
  · intro k hk
    show upd (S.2.1 41) i 0 k = 0 ∨ upd (S.2.1 41) i 0 k = 1
    rw [upd_at]
    by_cases hki : k = i
    · rw [if_pos hki]; exact Or.inl rfl
    · rw [if_neg hki]; exact hB k hk
  · show S.1 9 7 &&& (((1 : Int32) <<< (nI i &&& 31)) ^^^ (-1)) = nI (bN (fun k => decide (upd (S.2.1 41) i 0 k = 1)) n)
    rw [show S.1 9 7 = nI (bN (cvB S 41) n) from hV, n_lone (by omega), n_wo (bN_lt64 a2) (pow64 (by omega))]
    refine congrArg nI (n_ext (Nat.lt_of_le_of_lt (wo_le _ _) (bN_lt64 a2)) (bN_lt64 a2) fun k hk => ?_)
    rw [wo_bit (bN_lt64 a2) (pow64 (by omega)) hk, bN_bit, bN_bit, two_bit]
    show (decide (k < n) && decide (S.2.1 41 k = 1) && !decide (i = k)) = (decide (k < n) && decide ((if k = i then 0 else S.2.1 41 k) = 1))
    by_cases hki : k = i
    · subst hki
      rw [if_pos rfl]
      simp
    · rw [if_neg hki]
      simp [show ¬ i = k from fun e => hki e.symm]
def trL (S : mT) (j : Nat) (u v : Int32) : mT := uA (uA S 45 (upd (S.2.1 45) j u)) 46 (upd (S.2.1 46) j v)
theorem Inv_train {S : mT} {n t m q j a b : Nat} (h : Inv n t m q S) (hm : m < 30) (hj : j < t) (ha : a ≤ 4) (hb : b ≤ 4) : f_X10_train 0 (nI j) (nI a) (nI b) (mk (trL S j (nI a) (nI b))) = some (S.2.1 46 j, mk (trC (trL S j (nI a) (nI b)) j (nI a) (nI b))) ∧ Inv n t (m + 1) q (trC (trL S j (nI a) (nI b)) j (nI a) (nI b)) := by
  obtain ⟨⟨⟨a1, a2⟩, ⟨a3, a4⟩, a5, a6⟩, ⟨b1, b2, b3, b4⟩, hK, hC, hM, hV, hT, hH, ⟨n1, n3, ⟨n4, x, n5, n6⟩, x1, n7, n8⟩⟩ := id h
  refine ⟨?_, ⟨⟨a1, a2⟩, ⟨a3, a4⟩, by omega, a6⟩, ⟨b1, b2, b3, b4⟩, hK, hC, hM, hV, ?_, hH, n1, n3, ⟨n4, x, by omega, n6⟩, x1, by omega, n8⟩
  · rw [c_train (S := trL S j (nI a) (nI b)) a4 b3 hK hj ha hb]
    show some (S.2.1 14 j, _) = _
    rw [show S.2.1 14 j = S.2.1 46 j from (hT j hj).2.1]
  · intro k hk
    obtain ⟨t1, t2, u, v, t3, t4, t5, t6⟩ := hT k hk
    show upd (S.2.1 13) j (nI a) k = upd (S.2.1 45) j (nI a) k ∧ upd (S.2.1 14) j (nI b) k = upd (S.2.1 46) j (nI b) k ∧ ∃ u v : Nat, u ≤ 4 ∧ v ≤ 4 ∧ upd (S.2.1 45) j (nI a) k = nI u ∧ upd (S.2.1 46) j (nI b) k = nI v
    simp only [upd_at]
    by_cases hkj : k = j
    · simp only [if_pos hkj]
      exact ⟨trivial, trivial, a, b, ha, hb, rfl, rfl⟩
    · simp only [if_neg hkj]
      exact ⟨t1, t2, u, v, t3, t4, t5, t6⟩
theorem op_J628 {S : mT} {n t m q : Nat} (h : Inv n t m q S) (hm : m < 30) {mx : Nat} (h1 : 0 < mx) (h2 : mx ≤ 60) (y : Int32) : ∃ S' : mT, f_L_does_J628 (some 0) (some 39) (1 : Int32) y (nI mx) (mk S) = some (1, mk S') ∧ Inv n t (m + 1) q S' := by
  obtain ⟨⟨⟨a1, a2⟩, ⟨a3, a4⟩, a5, a6⟩, ⟨b1, b2, b3, b4⟩, hK, hC, hM, hV, hT, hH, ⟨n1, n3, ⟨n4, x, n5, n6⟩, x1, n7, n8⟩⟩ := id h
  have n3' : S.1 9 9 = S.1 38 6 := n3
  have hlt := atN_lt y h1
  have hv : 1 ≤ (nI (1 + atN y mx)).toInt ∧ (nI (1 + atN y mx)).toInt ≤ 60 := by
    rw [nT (by omega)]
    omega
  by_cases hb : S.1 38 6 + nI (1 + atN y mx) ≤ 99
  · refine ⟨uI (uI S 38 6 (S.1 38 6 + nI (1 + atN y mx))) 9 9 (S.1 9 9 + nI (1 + atN y mx)), ?_, ⟨⟨a1, a2⟩, ⟨a3, a4⟩, by omega, a6⟩, ⟨b1, b2, b3, b4⟩, hK, hC, hM, hV, hT, hH, n1, ?_, ⟨n4, x, by omega, n6⟩, x1, by omega, n8⟩
    · unfold f_L_does_J628 f_L_does_J690
      refine bnd (l_at y h1 (by omega) _) ?_
      rw [show (1 : Int32) + nI (atN y mx) = nI (1 + atN y mx) from n_add0 1 _]
      refine bnd (d37_L _) ?_
      rw [if_pos hb]
      refine bnd (d37_L _) ?_
      refine bnd (d37_S _ _) ?_
      refine bnd (kk_0 _) ?_
      have hc := c_stir (S := uI S 38 6 (S.1 38 6 + nI (1 + atN y mx))) a1 a2 b1 hv
      rw [if_pos (show (uI S 38 6 (S.1 38 6 + nI (1 + atN y mx))).1 9 9 + nI (1 + atN y mx) ≤ 99 from (congrArg (· + nI (1 + atN y mx)) n3' : S.1 9 9 + nI (1 + atN y mx) = _) ▸ hb)] at hc
      refine bnd hc ?_
      refine bnd (d37_L _) ?_
      refine (if_pos (show S.1 9 9 + nI (1 + atN y mx) = S.1 38 6 + nI (1 + atN y mx) by rw [n3'])).trans ?_
      exact if_pos (Or.inr rfl)
    · show S.1 9 9 + _ = S.1 38 6 + _
      rw [n3']
  · refine ⟨S, ?_, h.mono hm⟩
    unfold f_L_does_J628 f_L_does_J662
    refine bnd (l_at y h1 (by omega) _) ?_
    rw [show (1 : Int32) + nI (atN y mx) = nI (1 + atN y mx) from n_add0 1 _]
    refine bnd (d37_L _) ?_
    rw [if_neg hb]
    refine bnd (kk_0 _) ?_
    have hc := c_stir (S := S) a1 a2 b1 hv
    rw [if_neg (show ¬ S.1 9 9 + nI (1 + atN y mx) ≤ 99 by rw [n3']; exact hb)] at hc
    refine bnd hc ?_
    refine (if_pos rfl).trans ?_
    exact if_pos (Or.inr rfl)
theorem ex_bnd {α : Type} {e : Option α} {a : α} {k : α → Option (Int32 × mW)} {n t m q : Nat} (h : e = some a) (h2 : ∃ S' : mT, k a = some (1, mk S') ∧ Inv n t m q S') : ∃ S' : mT, Option.bind e k = some (1, mk S') ∧ Inv n t m q S' := h2.imp fun _ hS => ⟨bnd h hS.1, hS.2⟩
theorem op_does {S : mT} {n t m q : Nat} (h : Inv n t m q S) (hm : m < 30) (x : Int32) : ∃ S' : mT, f_L_does (some 0) (some 38) (some 39) x (mk S) = some (1, mk S') ∧ Inv n t (m + 1) q S' := by
  obtain ⟨⟨⟨a1, a2⟩, ⟨a3, a4⟩, a5, a6⟩, ⟨b1, b2, b3, b4⟩, hK, hC, hM, hV, hT, hH, hN⟩ := id h
  have hj : atN (x >>> ((4 : Int32) &&& 31)) t < t := atN_lt _ (by omega)
  have hs : atN x 16 < 16 := atN_lt _ (by decide)
  have c7 : ∀ k : Nat, k < 100 → ((nI k ≤ nI (atN x 16)) = (k ≤ atN x 16)) := fun k hk => propext (n_le (by omega) (by omega))
  unfold f_L_does
  rw [show (16 : Int32) = nI 16 from rfl, l_at x (m := 16) (by decide) (by decide), bS, b1_L, bS, b4, l_at _ (by omega) (by omega), bS]
  rw [show (7 : Int32) = nI 7 from rfl, show (9 : Int32) = nI 9 from rfl, show (11 : Int32) = nI 11 from rfl, show (13 : Int32) = nI 13 from rfl]
  simp only [c7 7 (by decide), c7 9 (by decide), c7 11 (by decide), c7 13 (by decide)]
  generalize hjj : atN (x >>> ((4 : Int32) &&& 31)) t = j at hj
  have h4 : j < 4 := by omega
  by_cases s7 : 7 ≤ atN x 16
  · rw [if_pos s7]
    by_cases s9 : 9 ≤ atN x 16
    · rw [if_pos s9]
      by_cases s11 : 11 ≤ atN x 16
      · rw [if_pos s11]
        by_cases s13 : 13 ≤ atN x 16
        · rw [if_pos s13]
          by_cases s : atN x 16 = 13
          · rw [if_pos (congrArg nI s)]
            obtain ⟨k1, k2⟩ := Inv_train h hm hj (a := atN (x >>> ((6 : Int32) &&& 31)) 5) (b := atN (x >>> (nI 9 &&& 31)) 5) (by have := atN_lt (x >>> ((6 : Int32) &&& 31)) (m := 5) (by decide); omega) (by have := atN_lt (x >>> (nI 9 &&& 31)) (m := 5) (by decide); omega)
            refine ⟨_, ?_, k2⟩
            unfold f_L_does_J605
            refine bnd (dp28_L _ h4) ?_
            refine bnd (l_at _ (m := 5) (by decide) (by decide) _) ?_
            refine bnd (dp24_S _ h4 _) ?_
            refine bnd (l_at _ (m := 5) (by decide) (by decide) _) ?_
            refine bnd (dp28_S _ h4 _) ?_
            refine bnd (dp24_L _ h4) ?_
            refine bnd (dp28_L _ h4) ?_
            refine bnd (kk_0 _) ?_
            rw [show (uA (uA S 45 (upd (S.2.1 45) j (nI (atN (x >>> ((6 : Int32) &&& 31)) 5)))) 46 (upd ((uA S 45 (upd (S.2.1 45) j (nI (atN (x >>> ((6 : Int32) &&& 31)) 5)))).2.1 46) j (nI (atN (x >>> (nI 9 &&& 31)) 5)))).2.1 45 j = nI (atN (x >>> ((6 : Int32) &&& 31)) 5) from if_pos rfl, show (uA (uA S 45 (upd (S.2.1 45) j (nI (atN (x >>> ((6 : Int32) &&& 31)) 5)))) 46 (upd ((uA S 45 (upd (S.2.1 45) j (nI (atN (x >>> ((6 : Int32) &&& 31)) 5)))).2.1 46) j (nI (atN (x >>> (nI 9 &&& 31)) 5)))).2.1 46 j = nI (atN (x >>> (nI 9 &&& 31)) 5) from if_pos rfl]
            refine bnd k1 ?_
            refine (if_pos rfl).trans ?_
            exact if_pos (Or.inr rfl)
          · rw [if_neg (show ¬ nI (atN x 16) = nI 13 by rw [n_eq (by omega) (by omega)]; exact s)]
            refine ex_bnd (l_at _ (m := 2) (by decide) (by decide) _) ?_
            by_cases z : nI (atN (x >>> ((10 : Int32) &&& 31)) 2) = 0
            · rw [if_pos z]
              exact op_J628 h hm (mx := 60) (by decide) (by decide) _
            · rw [if_neg z]
              exact op_J628 h hm (mx := 9) (by decide) (by decide) _
        · rw [if_neg s13]
          have hi : atN (x >>> ((4 : Int32) &&& 31)) n < n := atN_lt _ (by omega)
          have hc : atN (x >>> (nI 7 &&& 31)) 36 < 36 := atN_lt _ (by decide)
          have hl := l_L441 h hi hc
          have hmv := Inv_move h hm hi hc
          refine ex_bnd (b0_L _) ?_
          rw [b2]
          refine ex_bnd (l_at _ (m := n) (by omega) (by omega) _) ?_
          refine ex_bnd (l_at _ (m := 36) (by decide) (by decide) _) ?_
          generalize atN (x >>> ((4 : Int32) &&& 31)) n = i at hi hl hmv
          generalize atN (x >>> (nI 7 &&& 31)) 36 = c at hc hl hmv
          by_cases z : anyB (tk (S.2.1 40) i (nI c)) n = true
          · rw [if_pos z] at hl
            exact ⟨S, bnd hl rfl, h.mono hm⟩
          · rw [if_neg z] at hl
            obtain ⟨k1, k2⟩ := hmv z
            refine ⟨_, bnd hl ?_, k2⟩
            unfold f_L_does_J528
            refine bnd (dp0_L _ (show i < 6 by omega)) ?_
            refine bnd (dp0_S _ (show i < 6 by omega) _) ?_
            refine bnd (dp6_S _ (show i < 6 by omega) _) ?_
            refine bnd (kk_0 _) ?_
            refine bnd k1 ?_
            refine (if_pos rfl).trans ?_
            exact if_pos (Or.inr rfl)
      · rw [if_neg s11]
        obtain ⟨k1, k2⟩ := Inv_morn h hm
        refine ⟨_, ?_, k2⟩
        unfold f_L_does_J408
        refine bnd (l_morn a2 b2) ?_
        refine bnd (d38_L _) ?_
        refine bnd (d38_S _ _) ?_
        refine bnd (kk_0 _) ?_
        refine bnd k1 ?_
        refine (if_pos rfl).trans ?_
        exact if_pos (Or.inr rfl)
    · rw [if_neg s9]
      obtain ⟨T, S', k1, k2, k3, k4⟩ := op_windL h hm (r := atN (x >>> ((6 : Int32) &&& 31)) 3) (atN_lt _ (by decide))
      refine ⟨S', ?_, k4⟩
      unfold f_L_does_J302
      refine bnd (d36_L _) ?_
      refine bnd (l_at _ (m := 3) (by decide) (by decide) _) ?_
      refine bnd k1 ?_
      refine bnd (d36_L _) ?_
      rw [k2]
      refine bnd (kk_0 _) ?_
      refine bnd k3 ?_
      refine (if_pos rfl).trans ?_
      exact if_pos (Or.inr rfl)
  · rw [if_neg s7]
    refine ex_bnd (l_at _ (m := 36) (by decide) (by decide) _) ?_
    by_cases s2 : nI (atN x 16) ≤ (2 : Int32)
    · rw [if_pos s2]
      exact op_J90 h hm hj _
    · rw [if_neg s2]
      have hi : atN (x >>> ((6 : Int32) &&& 31)) n < n := atN_lt _ (by omega)
      refine ex_bnd (b0_L _) ?_
      rw [b2]
      refine ex_bnd (l_at _ (m := n) (by omega) (by omega) _) ?_
      refine ex_bnd (dp0_L _ (show atN (x >>> ((6 : Int32) &&& 31)) n < 6 by omega)) ?_
      refine ex_bnd (dp24_L _ h4) ?_
      refine ex_bnd (dp28_L _ h4) ?_
      refine ex_bnd (d36_L _) ?_
      exact op_J90 h hm hj _
