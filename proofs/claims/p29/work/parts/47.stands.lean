-- the law's rows for sums
abbrev sC (g : Nat → Int32) : mC := .inr (.inl (4, g))
theorem sG (S : mT) (g : Nat → Int32) : aG (mk (uX S (sC g))) (some (mk S).length) = some (4, g) := by
  rw [← uX_mk]
  unfold aG
  simp only [List.getElem?_concat_length]
theorem sW (S : mT) (g g2 : Nat → Int32) : (mk (uX S (sC g))).set (mk S).length (sC g2) = mk (uX S (sC g2)) := by
  rw [← uX_mk, ← uX_mk, List.set_append_right _ _ (Nat.le_refl _), Nat.sub_self]
  rfl
theorem sL (S : mT) (g : Nat → Int32) {k : Nat} (h : k < 4) : aL (mk (uX S (sC g))) (some (mk S).length) (nI k) = some (g k) := aL_of (sG S g) (by decide) h
theorem sS (S : mT) (g : Nat → Int32) {k : Nat} (h : k < 4) (x : Int32) : aS (mk (uX S (sC g))) (some (mk S).length) (nI k) x = some (mk (uX S (sC (upd g k x)))) := (aS_of (sG S g) (by decide) h x).trans (congrArg some (sW S g _))
theorem KR.more {S : mT} {t : Nat} {c : mC} (h : KR S t) : KR (uX S c) t := by
  intro j hj
  obtain ⟨kd, e, g1, g2, g3, g4⟩ := h j hj
  refine ⟨kd, e, g1, g2, g3, ?_⟩
  show (S.2.2.2.2 ++ [c])[e]? = _
  rw [List.getElem?_append_left (List.getElem?_eq_some_iff.mp g4).1]
  exact g4
/-- the sums of k sleepers -/
def g1s (S : mT) (k : Nat) : Nat → Int32 := fun j => if j = 0 then sm (S.2.1 41) k else if j = 1 then sm (S.2.1 42) k else if j = 2 then sm (S.2.1 43) k else 0
/-- and of k tossers -/
def g2s (S : mT) (n k : Nat) : Nat → Int32 := fun j => if j = 3 then sm (S.2.1 47) k else g1s S n j
theorem g1_up (S : mT) (k : Nat) : upd (upd (upd (g1s S k) 0 (g1s S k 0 + S.2.1 41 k)) 1 (g1s S k 1 + S.2.1 42 k)) 2 (g1s S k 2 + S.2.1 43 k) = g1s S (k + 1) := by
  funext j
  show (if j = 2 then sm (S.2.1 43) k + S.2.1 43 k else if j = 1 then sm (S.2.1 42) k + S.2.1 42 k else if j = 0 then sm (S.2.1 41) k + S.2.1 41 k else if j = 0 then sm (S.2.1 41) k else if j = 1 then sm (S.2.1 42) k else if j = 2 then sm (S.2.1 43) k else 0) = (if j = 0 then sm (S.2.1 41) k + S.2.1 41 k else if j = 1 then sm (S.2.1 42) k + S.2.1 42 k else if j = 2 then sm (S.2.1 43) k + S.2.1 43 k else 0)
  repeat' split
  all_goals first | rfl | (exfalso; omega)
theorem g2_up (S : mT) (n k : Nat) : upd (g2s S n k) 3 (g2s S n k 3 + S.2.1 47 k) = g2s S n (k + 1) := by
  funext j
  show (if j = 3 then sm (S.2.1 47) k + S.2.1 47 k else if j = 3 then sm (S.2.1 47) k else g1s S n j) = (if j = 3 then sm (S.2.1 47) k + S.2.1 47 k else g1s S n j)
  repeat' split
  all_goals rfl
theorem g2_0 (S : mT) (n : Nat) : g2s S n 0 = g1s S n := by
  funext j
  show (if j = 3 then sm (S.2.1 47) 0 else g1s S n j) = g1s S n j
  by_cases h : j = 3
  · rw [if_pos h, h]
    rfl
  · rw [if_neg h]
theorem g1_0 (S : mT) : g1s S 0 = fun _ => 0 := by
  funext j
  show (if j = 0 then (0 : Int32) else if j = 1 then 0 else if j = 2 then 0 else 0) = 0
  repeat' split
  all_goals rfl
theorem st_L7 {S : mT} {n t m q : Nat} (h : Inv n t m q S) : f_L_stands_L7 (some 0) (some 38) (some 39) (some (mk S).length) mFuel 0 (mk (uX S (sC (g1s S 0)))) = some (.inr (mk (uX S (sC (g1s S n))))) := by
  obtain ⟨⟨⟨a1, a2⟩, a3, a4, a5, a6⟩, ⟨b1, b2, b3, b4⟩, hK, hC, hM, ⟨hB, hV⟩, hT, hH, hN⟩ := h
  refine loopK (fun f k => f_L_stands_L7 (some 0) (some 38) (some 39) (some (mk S).length) f (nI k) (mk (uX S (sC (g1s S k))))) n (.inr (mk (uX S (sC (g1s S n))))) ?_ (fun f => ?he) mFuel (by unfold mFuel; omega)
  case he =>
    simp only [f_L_stands_L7]
    refine bnd (b0_L _) ?_
    rw [show (uX S (sC (g1s S n))).1 38 3 = nI n from b2, if_pos (show nI n ≤ nI n by rw [n_le (by omega) (by omega)]; omega)]
  · intro f k hk
    have h6 : k < 6 := by omega
    simp only [f_L_stands_L7]
    refine bnd (b0_L _) ?_
    rw [show (uX S (sC (g1s S k))).1 38 3 = nI n from b2, if_neg (show ¬ nI n ≤ nI k by rw [n_le (by omega) (by omega)]; omega)]
    refine bnd (kk_0 _) ?_
    refine bnd (c_sl0 (S := uX S (sC (g1s S k))) a2 b1 hk) ?_
    refine bnd (dp0_L _ h6) ?_
    refine (if_pos (show (uX S (sC (g1s S k))).2.1 10 k = (uX S (sC (g1s S k))).2.1 40 k from (hC k hk).1)).trans ?_
    refine bnd (kk_0 _) ?_
    refine bnd (c_sl1 (S := uX S (sC (g1s S k))) a2 b1 hk hV) ?_
    refine bnd (dp6_L _ h6) ?_
    have hcv : (if cvB S 41 k = true then (1 : Int32) else 0) = S.2.1 41 k := by
      unfold cvB
      rcases hB k hk with hz | hz
      · rw [hz]; rfl
      · rw [hz]; rfl
    refine (if_pos hcv).trans ?_
    refine bnd (kk_0 _) ?_
    refine bnd (c_sl2 (S := uX S (sC (g1s S k))) a2 b1 hk) ?_
    refine bnd (dp12_L _ h6) ?_
    refine (if_pos (show (uX S (sC (g1s S k))).2.1 11 k = (uX S (sC (g1s S k))).2.1 42 k from ((hM k h6).1 hk).1)).trans ?_
    refine bnd (kk_0 _) ?_
    refine bnd (c_sl3 (S := uX S (sC (g1s S k))) a2 b1 hk) ?_
    refine bnd (dp18_L _ h6) ?_
    refine (if_pos (show (uX S (sC (g1s S k))).2.1 12 k = (uX S (sC (g1s S k))).2.1 43 k from ((hM k h6).1 hk).2)).trans ?_
    refine bnd (sL S _ (k := 0) (by decide)) ?_
    refine bnd (dp6_L _ h6) ?_
    refine bnd (sS S _ (k := 0) (by decide) _) ?_
    refine bnd (sL S _ (k := 1) (by decide)) ?_
    refine bnd (dp12_L _ h6) ?_
    refine bnd (sS S _ (k := 1) (by decide) _) ?_
    refine bnd (sL S _ (k := 2) (by decide)) ?_
    refine bnd (dp18_L _ h6) ?_
    refine bnd (sS S _ (k := 2) (by decide) _) ?_
    rw [nI_1, ← g1_up]
    rfl
theorem st_L130 {S : mT} {n t m q : Nat} (h : Inv n t m q S) : f_L_stands_L130 (some 0) (some 38) (some 39) (some (mk S).length) mFuel 0 (mk (uX S (sC (g2s S n 0)))) = some (.inr (mk (uX S (sC (g2s S n t))))) := by
  obtain ⟨⟨⟨a1, a2⟩, ⟨a3, a4⟩, a5, a6⟩, ⟨b1, b2, b3, b4⟩, hK, hC, hM, ⟨hB, hV⟩, hT, hH, hN⟩ := h
  refine loopK (fun f k => f_L_stands_L130 (some 0) (some 38) (some 39) (some (mk S).length) f (nI k) (mk (uX S (sC (g2s S n k))))) t (.inr (mk (uX S (sC (g2s S n t))))) ?_ (fun f => ?he) mFuel (by unfold mFuel; omega)
  case he =>
    simp only [f_L_stands_L130]
    refine bnd (b1_L _) ?_
    rw [show (uX S (sC (g2s S n t))).1 38 4 = nI t from b4, if_pos (show nI t ≤ nI t by rw [n_le (by omega) (by omega)]; omega)]
  · intro f k hk
    have h4 : k < 4 := by omega
    obtain ⟨kd, e0, k1, k2, k3, k4⟩ := hK k hk
    obtain ⟨t1, t2, t3⟩ := hT k hk
    simp only [f_L_stands_L130]
    refine bnd (b1_L _) ?_
    rw [show (uX S (sC (g2s S n k))).1 38 4 = nI t from b4, if_neg (show ¬ nI t ≤ nI k by rw [n_le (by omega) (by omega)]; omega)]
    refine bnd (kk_0 _) ?_
    refine bnd (c_to0 (S := uX S (sC (g2s S n k))) a4 b3 hK.more hk k1 k2) ?_
    refine bnd (bp2_L _ h4) ?_
    refine (if_pos (show nI kd = (uX S (sC (g2s S n k))).2.1 44 k from k2.symm)).trans ?_
    refine bnd (kk_0 _) ?_
    refine bnd (c_to1 (S := uX S (sC (g2s S n k))) a4 b3 hK.more hk) ?_
    refine bnd (dp24_L _ h4) ?_
    refine (if_pos (show (uX S (sC (g2s S n k))).2.1 13 k = (uX S (sC (g2s S n k))).2.1 45 k from t1)).trans ?_
    refine bnd (kk_0 _) ?_
    refine bnd (c_to2 (S := uX S (sC (g2s S n k))) a4 b3 hK.more hk) ?_
    refine bnd (dp28_L _ h4) ?_
    refine (if_pos (show (uX S (sC (g2s S n k))).2.1 14 k = (uX S (sC (g2s S n k))).2.1 46 k from t2)).trans ?_
    refine bnd (kk_0 _) ?_
    refine bnd (c_to3 (S := uX S (sC (g2s S n k))) a4 b3 hK.more hk k1 k2) ?_
    refine bnd (bp2_L _ h4) ?_
    rw [show (uX S (sC (g2s S n k))).2.1 44 k = nI kd from k2]
    refine bnd (l_batter k1 _) ?_
    rw [if_pos rfl]
    refine bnd (kk_0 _) ?_
    refine bnd (c_to8 (S := uX S (sC (g2s S n k))) a4 b3 hK.more hk) ?_
    refine bnd (dp32_L _ h4) ?_
    refine (if_pos (show (uX S (sC (g2s S n k))).2.1 15 k = (uX S (sC (g2s S n k))).2.1 47 k from hH.1 k hk)).trans ?_
    refine bnd (sL S _ (k := 3) (by decide)) ?_
    refine bnd (dp32_L _ h4) ?_
    refine bnd (sS S _ (k := 3) (by decide) _) ?_
    rw [nI_1, ← g2_up]
    rfl
theorem op_stands {S : mT} {n t m q : Nat} (h : Inv n t m q S) : ∃ S' : mT, f_L_stands (some 0) (some 38) (some 39) (mk S) = some (1, mk S') ∧ Inv n t m (q + 1) S' := by
  have h7 := st_L7 h
  have h13 := st_L130 h
  obtain ⟨⟨⟨a1, a2⟩, ⟨a3, a4⟩, a5, a6, a7⟩, ⟨b1, b2, b3, b4⟩, hK, hC, hM, ⟨hB, hV⟩, hT, hH, hN⟩ := id h
  obtain ⟨⟨n1, n2⟩, n3, ⟨n4, n5⟩, n6⟩ := id hN
  refine ⟨uX S (sC (g2s S n t)), ?_, ⟨⟨a1, a2⟩, ⟨a3, a4⟩, a5, ?_, ?_⟩, ⟨b1, b2, b3, b4⟩, hK.more, hC, hM, ⟨hB, hV⟩, hT, hH, hN⟩
  · rw [g2_0] at h13
    rw [g1_0] at h7
    unfold f_L_stands f_L_stands_J358
    refine bnd (congrArg some (uX_mk S _)) ?_
    refine bnd h7 ?_
    refine bnd h13 ?_
    refine bnd (kk_0 _) ?_
    refine bnd c_ct0 ?_
    refine bnd (b0_L _) ?_
    refine (if_pos (show (uX S (sC (g2s S n t))).1 0 7 = (uX S (sC (g2s S n t))).1 38 3 from b1.trans b2.symm)).trans ?_
    refine bnd (kk_0 _) ?_
    refine bnd c_ct1 ?_
    refine bnd (b1_L _) ?_
    refine (if_pos (show (uX S (sC (g2s S n t))).1 0 8 = (uX S (sC (g2s S n t))).1 38 4 from b3.trans b4.symm)).trans ?_
    refine bnd (kk_0 _) ?_
    refine bnd (c_ct2 (S := uX S (sC (g2s S n t))) a2 hV) ?_
    refine bnd (sL S _ (k := 0) (by decide)) ?_
    refine (if_pos (show nI (pop (bN (cvB S 41) n)) = g2s S n t 0 from (cov_sum a2 hB).symm)).trans ?_
    refine bnd (kk_0 _) ?_
    refine bnd c_ct3 ?_
    refine bnd (d37_L _) ?_
    refine (if_pos (show (uX S (sC (g2s S n t))).1 9 9 = (uX S (sC (g2s S n t))).1 38 6 from n3)).trans ?_
    refine bnd (kk_0 _) ?_
    refine bnd c_ct4 ?_
    refine bnd (d36_L _) ?_
    refine (if_pos (show (uX S (sC (g2s S n t))).1 9 8 + 1 = (uX S (sC (g2s S n t))).1 38 5 + 1 from congrArg (· + 1) n1)).trans ?_
    refine bnd (kk_0 _) ?_
    refine bnd c_ct5 ?_
    refine bnd (d38_L _) ?_
    refine (if_pos (show (uX S (sC (g2s S n t))).1 9 10 = (uX S (sC (g2s S n t))).1 38 7 from n4)).trans ?_
    refine bnd (kk_0 _) ?_
    refine bnd c_ct6 ?_
    refine bnd (sL S _ (k := 1) (by decide)) ?_
    refine (if_pos (show sm (S.2.1 11) 6 = sm (S.2.1 42) n from (sm_zero a2 (fun i h1 h2 => ((hM i h2).2 h1).1)).trans (sm_congr fun i hi => ((hM i (by omega)).1 hi).1))).trans ?_
    refine bnd (kk_0 _) ?_
    refine bnd c_ct7 ?_
    refine bnd (sL S _ (k := 2) (by decide)) ?_
    refine (if_pos (show sm (S.2.1 12) 6 = sm (S.2.1 43) n from (sm_zero a2 (fun i h1 h2 => ((hM i h2).2 h1).2)).trans (sm_congr fun i hi => ((hM i (by omega)).1 hi).2))).trans ?_
    refine bnd (kk_0 _) ?_
    refine bnd c_ct8 ?_
    refine bnd (sL S _ (k := 3) (by decide)) ?_
    refine (if_pos (show (uX S (sC (g2s S n t))).1 9 11 = g2s S n t 3 from hH.2)).trans ?_
    exact if_pos (Or.inr rfl)
  · show (S.2.2.2.2 ++ [_]).length ≤ _
    rw [List.length_append]
    show S.2.2.2.2.length + 1 ≤ _
    omega
  · show mSz (S.2.2.2.2 ++ [_]) ≤ _
    rw [mSz_app]
    show _ + 4 ≤ _
    omega
