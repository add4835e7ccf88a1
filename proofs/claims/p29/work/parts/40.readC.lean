theorem ob_a {S T : mT} (h : ob T = ob S) {a : Nat} (ha : okA a = true) : T.2.1 a = S.2.1 a := by
  have h1 : (ob T).2.1 a = (ob S).2.1 a := by rw [h]
  have h2 : (if okA a = true then T.2.1 a else fun _ => 0) = (if okA a = true then S.2.1 a else fun _ => 0) := h1
  rwa [if_pos ha, if_pos ha] at h2
theorem ob_i {S T : mT} (h : ob T = ob S) {o k : Nat} (ha : okI o k = true) : T.1 o k = S.1 o k := by
  have h1 : (ob T).1 o k = (ob S).1 o k := by rw [h]
  have h2 : (if okI o k = true then T.1 o k else 0) = (if okI o k = true then S.1 o k else 0) := h1
  rwa [if_pos ha, if_pos ha] at h2
theorem fin01 {b : Bool} {w : mW} : (if (if b = true then (1 : Int32) else 0) = 0 ∨ (if b = true then (1 : Int32) else 0) = 1 then some ((if b = true then (1 : Int32) else 0), w) else none) = some ((if b = true then (1 : Int32) else 0), w) := by
  cases b <;> rfl
theorem s_tRow (T : mT) (v : Int32) : f_X5_takesRow 3 v (mk T) = some (if decide (0 ≤ v.toInt ∧ v.toInt ≤ 5) = true then 1 else 0, mk (uI (uI T 3 6 v) 3 7 1)) := by
  simp only [f_X5_takesRow, f_X5_takesRow_J25, f_X5_takesRow_J24, true_or, or_true, or_false, false_or, if_true, if_false, and_true, true_and, and_false, false_and, not_true_eq_false, not_false_eq_true]
  rw [wI_3_6, bS, wI_3_7, bS]
  simp only [lt_T, le_T, i0, show (6 : Int32).toInt = 6 from rfl, decide_eq_true_eq]
  by_cases h1 : v.toInt < 0
  · rw [if_pos h1, if_neg (by omega)]
  · rw [if_neg h1]
    by_cases h2 : 6 ≤ v.toInt
    · rw [if_pos h2, if_neg (by omega)]
    · rw [if_neg h2, if_pos (by omega)]
theorem s_tCol {T : mT} {a : Nat} (ha : a < 6) (e : T.1 3 4 = nI a) (v : Int32) : f_X5_takesColumn 3 v (mk T) = some (if anyB (fun i => decide (T.2.1 4 i = cel (T.1 3 6) v)) a = true then (0, mk T) else (if cel (T.1 3 6) v = -1 then 0 else 1, mk (uI (uI (uA T 4 (upd (T.2.1 4) a (cel (T.1 3 6) v))) 3 4 (nI (a + 1))) 3 7 2))) := by
  have hl := (loopR (fun m k => f_X5_takesColumn_L11 3 (cel (T.1 3 6) v) (mk T) m (nI k)) (fun i => decide (T.2.1 4 i = cel (T.1 3 6) v)) (fun _ => Sum.inl (0, mk T)) (Sum.inr ()) a 0 mFuel ?_ ?_ (by unfold mFuel; omega)).trans (congrArg some (fst_any (fun i => decide (T.2.1 4 i = cel (T.1 3 6) v)) a (Sum.inl ((0 : Int32), mk T)) (Sum.inr ())))
  · simp only [f_X5_takesColumn, f_X5_takesColumn_J76, true_or, or_true, or_false, false_or, if_true, if_false, and_true, true_and, and_false, false_and, not_true_eq_false, not_false_eq_true]
    rw [rI_3_6, bS, s_celC, bS, show f_X5_takesColumn_L11 3 (cel (T.1 3 6) v) (mk T) mFuel 0 = _ from hl, bS]
    by_cases h : anyB (fun i => decide (T.2.1 4 i = cel (T.1 3 6) v)) a = true
    · rw [if_pos h, if_pos h]
    · rw [if_neg h, if_neg h]
      show Option.bind (gR (mk T) (some 3) 5 0) _ = _
      refine bnd (rR_3_0 _) ?_
      refine bnd (rI_3_4 _) ?_
      rw [e]
      refine bnd ((s_put (aG_4 _) (by decide) ha _).trans (congrArg some (aW_4 _ _))) ?_
      refine bnd (rI_3_4 _) ?_
      rw [show (uA T 4 (upd (T.2.1 4) a (cel (T.1 3 6) v))).1 3 4 = nI a from e, nI_1]
      refine bnd (wI_3_4 _ _) ?_
      refine bnd (wI_3_7 _ _) ?_
      by_cases h2 : cel (T.1 3 6) v = -1
      · rw [if_pos h2, if_pos h2]
      · rw [if_neg h2, if_neg h2]
  · intro m k _ hk
    simp only [f_X5_takesColumn_L11]
    rw [rI_3_4, bS, e, if_neg (show ¬ nI a ≤ nI k by rw [n_le (by omega) (by omega)]; omega), rR_3_0, bS, s_at (aG_4 T) (by decide) (by omega), bS, nI_1]
    by_cases h : T.2.1 4 k = cel (T.1 3 6) v
    · rw [if_pos h, if_pos (decide_eq_true h)]
    · rw [if_neg h, if_neg (show ¬ decide (T.2.1 4 k = cel (T.1 3 6) v) = true by rw [decide_eq_true_eq]; exact h)]
  · intro m
    simp only [f_X5_takesColumn_L11]
    rw [rI_3_4, bS, e, Nat.zero_add, if_pos (show nI a ≤ nI a by rw [n_le (by omega) (by omega)]; omega)]
theorem s_tAS {T : mT} {a x : Nat} (ha : a ≤ 6) (e : T.1 3 4 = nI a) (hx : x < 127) : f_X5_takesAfterSleeper 3 (nI x) (mk T) = some (if decide (x = 59 ∨ (x = 44 ∧ a < 6)) = true then 1 else 0, mk (uI T 3 7 (if x = 59 then 3 else 0))) := by
  simp only [f_X5_takesAfterSleeper, f_X5_takesAfterSleeper_J41, f_X5_takesAfterSleeper_J40, f_X5_takesAfterSleeper_J36, f_X5_takesAfterSleeper_J12, true_or, or_true, or_false, false_or, if_true, if_false, and_true, true_and, and_false, false_and, not_true_eq_false, not_false_eq_true]
  by_cases h : x = 59
  · subst h
    rw [if_pos (show nI 59 = (59 : Int32) from rfl), wI_3_7, bS, if_pos (show nI 59 = (59 : Int32) from rfl)]
    rfl
  · have h' : ¬ nI x = (59 : Int32) := by rw [show (59 : Int32) = nI 59 from rfl, n_eq (by omega) (by omega)]; exact h
    rw [if_neg h', wI_3_7, bS, if_neg h', if_neg h]
    by_cases h2 : x = 44
    · subst h2
      rw [if_pos (show nI 44 = (44 : Int32) from rfl), rI_3_4, bS, show (uI T 3 7 0).1 3 4 = nI a from e]
      by_cases h3 : a < 6
      · rw [if_neg (show ¬ (6 : Int32) ≤ nI a by rw [show (6 : Int32) = nI 6 from rfl, n_le (by omega) (by omega)]; omega), if_pos (decide_eq_true (Or.inr ⟨rfl, h3⟩))]
      · rw [if_pos (show (6 : Int32) ≤ nI a by rw [show (6 : Int32) = nI 6 from rfl, n_le (by omega) (by omega)]; omega), if_neg (show ¬ decide ((44 : Nat) = 59 ∨ ((44 : Nat) = 44 ∧ a < 6)) = true by rw [decide_eq_true_eq]; omega)]
    · rw [if_neg (show ¬ nI x = (44 : Int32) by rw [show (44 : Int32) = nI 44 from rfl, n_eq (by omega) (by omega)]; exact h2), if_neg (show ¬ decide (x = 59 ∨ (x = 44 ∧ a < 6)) = true by rw [decide_eq_true_eq]; omega)]
theorem s_tKind {T : mT} {q x : Nat} (hq : q < 4) (e : T.1 3 5 = nI q) (hx : x < 127) : f_X5_takesKind 3 (nI x) (mk T) = some (if decide (¬ kn x = -1) = true then 1 else 0, mk (uI (uA T 5 (upd (T.2.1 5) q (kn x))) 3 7 4)) := by
  simp only [f_X5_takesKind, f_X5_takesKind_J34, true_or, or_true, or_false, false_or, if_true, if_false, and_true, true_and, and_false, false_and, not_true_eq_false, not_false_eq_true]
  rw [s_knC hx, bS, rR_3_1, bS, rI_3_5, bS, e, s_put (aG_5 T) (by decide) hq, bS, aW_5, wI_3_7, bS]
  rcases kn_ok hx with h | ⟨kd, h1, h⟩
  · rw [h]; rfl
  · rw [h, if_neg (show ¬ nI kd < 0 by rw [show (0 : Int32) = nI 0 from rfl, n_lt (by omega) (by omega)]; omega), if_pos (decide_eq_true (n_m1 (by omega)))]
theorem s_tSouth {T : mT} {q : Nat} (hq : q < 4) (e : T.1 3 5 = nI q) (v : Int32) : f_X5_takesSouth 3 v (mk T) = some (if decide (0 ≤ v.toInt ∧ v.toInt ≤ 4) = true then 1 else 0, mk (uI (uA T 6 (upd (T.2.1 6) q v)) 3 7 5)) := by
  unfold f_X5_takesSouth
  rw [rR_3_2, bS, rI_3_5, bS, e, s_put (aG_6 T) (by decide) hq, bS, aW_6, wI_3_7, bS, s_isTurn, bS]
  by_cases h : 0 ≤ v.toInt ∧ v.toInt ≤ 4
  · rw [if_pos h, if_pos (Or.inr rfl), if_pos (decide_eq_true h)]
  · rw [if_neg h, if_pos (Or.inl rfl), if_neg (show ¬ decide (0 ≤ v.toInt ∧ v.toInt ≤ 4) = true by rw [decide_eq_true_eq]; exact h)]
theorem s_tEast {T : mT} {q : Nat} (hq : q < 4) (e : T.1 3 5 = nI q) (v : Int32) : f_X5_takesEast 3 v (mk T) = some (if decide (0 ≤ v.toInt ∧ v.toInt ≤ 4) = true then 1 else 0, mk (uI (uI (uA T 7 (upd (T.2.1 7) q v)) 3 5 (nI (q + 1))) 3 7 6)) := by
  unfold f_X5_takesEast
  rw [rR_3_3, bS, rI_3_5, bS, e, s_put (aG_7 T) (by decide) hq, bS, aW_7, rI_3_5, bS, uA_1, e, nI_1, wI_3_5, bS, wI_3_7, bS, s_isTurn, bS]
  by_cases h : 0 ≤ v.toInt ∧ v.toInt ≤ 4
  · rw [if_pos h, if_pos (Or.inr rfl), if_pos (decide_eq_true h)]
  · rw [if_neg h, if_pos (Or.inl rfl), if_neg (show ¬ decide (0 ≤ v.toInt ∧ v.toInt ≤ 4) = true by rw [decide_eq_true_eq]; exact h)]
theorem s_tAT {T : mT} {a x : Nat} (ha : a ≤ 4) (e : T.1 3 5 = nI a) (hx : x < 127) : f_X5_takesAfterTosser 3 (nI x) (mk T) = some (if decide (x = 44 ∧ a < 4) = true then 1 else 0, mk (uI T 3 7 3)) := by
  simp only [f_X5_takesAfterTosser, f_X5_takesAfterTosser_J24, f_X5_takesAfterTosser_J23, true_or, or_true, or_false, false_or, if_true, if_false, and_true, true_and, and_false, false_and, not_true_eq_false, not_false_eq_true]
  rw [wI_3_7, bS]
  by_cases h2 : x = 44
  · subst h2
    rw [if_pos (show nI 44 = (44 : Int32) from rfl), rI_3_5, bS, show (uI T 3 7 3).1 3 5 = nI a from e]
    by_cases h3 : a < 4
    · rw [if_neg (show ¬ (4 : Int32) ≤ nI a by rw [show (4 : Int32) = nI 4 from rfl, n_le (by omega) (by omega)]; omega), if_pos (decide_eq_true ⟨rfl, h3⟩)]
    · rw [if_pos (show (4 : Int32) ≤ nI a by rw [show (4 : Int32) = nI 4 from rfl, n_le (by omega) (by omega)]; omega), if_neg (show ¬ decide ((44 : Nat) = 44 ∧ a < 4) = true by rw [decide_eq_true_eq]; omega)]
  · rw [if_neg (show ¬ nI x = (44 : Int32) by rw [show (44 : Int32) = nI 44 from rfl, n_eq (by omega) (by omega)]; exact h2), if_neg (show ¬ decide (x = 44 ∧ a < 4) = true by rw [decide_eq_true_eq]; omega)]
-- the class's reader between two letters
def CR (T : mT) (c : Nat → Nat) (n : Nat) : Prop := ∀ i, i < n → T.2.1 4 i = cz c i ∧ ∃ q : Nat, q < 36 ∧ cz c i = nI q
def CA (S T : mT) (c : Nat → Nat) (k : Nat) : Prop := ob T = ob S ∧ k ≤ 17 ∧ T.1 3 7 = nI (k % 3) ∧ T.1 3 4 = nI ((k + 1) / 3) ∧ T.1 3 5 = nI 0 ∧ (k % 3 = 1 → T.1 3 6 = nI (c (k - 1)) - 48 ∧ 48 ≤ c (k - 1) ∧ c (k - 1) ≤ 53) ∧ CR T c ((k + 1) / 3)
def CB (S T : mT) (c : Nat → Nat) (e k : Nat) : Prop := ob T = ob S ∧ (e % 3 = 2 ∧ e ≤ 17 ∧ e < k ∧ k ≤ e + 16) ∧ T.1 3 7 = nI (3 + (k - e - 1) % 4) ∧ T.1 3 4 = nI ((e + 1) / 3) ∧ T.1 3 5 = nI ((k - e) / 4) ∧ CR T c ((e + 1) / 3) ∧ (∀ i, e + 1 + 4 * i < k → T.2.1 5 i = kn (c (e + 1 + 4 * i)) ∧ ¬ kn (c (e + 1 + 4 * i)) = -1) ∧ (∀ i, e + 2 + 4 * i < k → T.2.1 6 i = nI (c (e + 2 + 4 * i)) - 48) ∧ (∀ i, e + 3 + 4 * i < k → T.2.1 7 i = nI (c (e + 3 + 4 * i)) - 48)
theorem c_stepB {S T : mT} {c : Nat → Nat} {e k : Nat} (hx : c k < 127) (h : CB S T c e k) : ∃ T', f_X5_takes 3 (nI (c k)) (mk T) = some (if goodB c e k = true then 1 else 0, mk T') ∧ ob T' = ob S ∧ (goodB c e k = true → CB S T' c e (k + 1)) := by
  obtain ⟨o1, ⟨e1, e2, e3, e4⟩, p1, p2, p3, p4, p5, p6, p7⟩ := h
  have h3 : (k - e - 1) % 4 = 0 ∨ (k - e - 1) % 4 = 1 ∨ (k - e - 1) % 4 = 2 ∨ (k - e - 1) % 4 = 3 := by omega
  unfold f_X5_takes goodB
  rw [rI_3_7, bS, p1, kk_3]
  rcases h3 with h3 | h3 | h3 | h3
  · rw [h3, if_neg (show ¬ nI (3 + 0) = (0 : Int32) by decide), if_neg (show ¬ nI (3 + 0) = (1 : Int32) by decide), if_neg (show ¬ nI (3 + 0) = (2 : Int32) by decide), if_pos (show nI (3 + 0) = (3 : Int32) from rfl), bS, s_tKind (q := (k - e) / 4) (by omega) p3 hx, bS, if_pos rfl, fin01]
    refine ⟨_, rfl, (show ob (uI _ 3 7 4) = _ from (ob_I rfl).trans ((ob_A rfl).trans o1)), fun hg => ⟨(show ob (uI _ 3 7 4) = _ from (ob_I rfl).trans ((ob_A rfl).trans o1)), ⟨e1, e2, by omega, by omega⟩, ?_, p2, ?_, p4, fun i hi => ?_, fun i hi => p6 i (by omega), fun i hi => p7 i (by omega)⟩⟩
    · show (4 : Int32) = _
      rw [show (k + 1 - e - 1) % 4 = 1 by omega]
      rfl
    · show T.1 3 5 = _
      rw [p3, show (k + 1 - e) / 4 = (k - e) / 4 by omega]
    · show upd (T.2.1 5) ((k - e) / 4) (kn (c k)) i = _ ∧ _
      rw [upd_at]
      by_cases hq : i = (k - e) / 4
      · have hik : e + 1 + 4 * i = k := by omega
        rw [if_pos hq, hik]
        exact ⟨rfl, of_decide_eq_true hg⟩
      · rw [if_neg hq]
        exact p5 i (by omega)
  · rw [h3, if_neg (show ¬ nI (3 + 1) = (0 : Int32) by decide), if_neg (show ¬ nI (3 + 1) = (1 : Int32) by decide), if_neg (show ¬ nI (3 + 1) = (2 : Int32) by decide), if_neg (show ¬ nI (3 + 1) = (3 : Int32) by decide), if_pos (show nI (3 + 1) = (4 : Int32) from rfl), bS, s_tSouth (q := (k - e) / 4) (by omega) p3, bS, if_neg (show ¬ (1 : Nat) = 0 by decide), if_neg (show ¬ (1 : Nat) = 3 by decide), fin01, s48 hx]
    have hd : decide ((0 : Int) ≤ (c k : Int) - 48 ∧ (c k : Int) - 48 ≤ 4) = decide (48 ≤ c k ∧ c k ≤ 52) := by
      by_cases hz : 48 ≤ c k ∧ c k ≤ 52
      · rw [decide_eq_true hz, decide_eq_true (by omega)]
      · rw [decide_eq_false hz, decide_eq_false (by omega)]
    rw [hd]
    refine ⟨_, rfl, (show ob (uI _ 3 7 5) = _ from (ob_I rfl).trans ((ob_A rfl).trans o1)), fun hg => ⟨(show ob (uI _ 3 7 5) = _ from (ob_I rfl).trans ((ob_A rfl).trans o1)), ⟨e1, e2, by omega, by omega⟩, ?_, p2, ?_, p4, fun i hi => p5 i (by omega), fun i hi => ?_, fun i hi => p7 i (by omega)⟩⟩
    · show (5 : Int32) = _
      rw [show (k + 1 - e - 1) % 4 = 2 by omega]
      rfl
    · show T.1 3 5 = _
      rw [p3, show (k + 1 - e) / 4 = (k - e) / 4 by omega]
    · show upd (T.2.1 6) ((k - e) / 4) (nI (c k) - 48) i = _
      rw [upd_at]
      by_cases hq : i = (k - e) / 4
      · have hik : e + 2 + 4 * i = k := by omega
        rw [if_pos hq, hik]
      · rw [if_neg hq]
        exact p6 i (by omega)
  · rw [h3, if_neg (show ¬ nI (3 + 2) = (0 : Int32) by decide), if_neg (show ¬ nI (3 + 2) = (1 : Int32) by decide), if_neg (show ¬ nI (3 + 2) = (2 : Int32) by decide), if_neg (show ¬ nI (3 + 2) = (3 : Int32) by decide), if_neg (show ¬ nI (3 + 2) = (4 : Int32) by decide), if_pos (show nI (3 + 2) = (5 : Int32) from rfl), bS, s_tEast (q := (k - e) / 4) (by omega) p3, bS, if_neg (show ¬ (2 : Nat) = 0 by decide), if_neg (show ¬ (2 : Nat) = 3 by decide), fin01, s48 hx]
    have hd : decide ((0 : Int) ≤ (c k : Int) - 48 ∧ (c k : Int) - 48 ≤ 4) = decide (48 ≤ c k ∧ c k ≤ 52) := by
      by_cases hz : 48 ≤ c k ∧ c k ≤ 52
      · rw [decide_eq_true hz, decide_eq_true (by omega)]
      · rw [decide_eq_false hz, decide_eq_false (by omega)]
    rw [hd]
    refine ⟨_, rfl, (show ob (uI (uI _ 3 5 _) 3 7 6) = _ from (ob_I rfl).trans ((ob_I rfl).trans ((ob_A rfl).trans o1))), fun hg => ⟨(show ob (uI (uI _ 3 5 _) 3 7 6) = _ from (ob_I rfl).trans ((ob_I rfl).trans ((ob_A rfl).trans o1))), ⟨e1, e2, by omega, by omega⟩, ?_, p2, ?_, p4, fun i hi => p5 i (by omega), fun i hi => p6 i (by omega), fun i hi => ?_⟩⟩
    · show (6 : Int32) = _
      rw [show (k + 1 - e - 1) % 4 = 3 by omega]
      rfl
    · show nI ((k - e) / 4 + 1) = _
      rw [show (k + 1 - e) / 4 = (k - e) / 4 + 1 by omega]
    · show upd (T.2.1 7) ((k - e) / 4) (nI (c k) - 48) i = _
      rw [upd_at]
      by_cases hq : i = (k - e) / 4
      · have hik : e + 3 + 4 * i = k := by omega
        rw [if_pos hq, hik]
      · rw [if_neg hq]
        exact p7 i (by omega)
  · rw [h3, if_neg (show ¬ nI (3 + 3) = (0 : Int32) by decide), if_neg (show ¬ nI (3 + 3) = (1 : Int32) by decide), if_neg (show ¬ nI (3 + 3) = (2 : Int32) by decide), if_neg (show ¬ nI (3 + 3) = (3 : Int32) by decide), if_neg (show ¬ nI (3 + 3) = (4 : Int32) by decide), if_neg (show ¬ nI (3 + 3) = (5 : Int32) by decide), bS, s_tAT (a := (k - e) / 4) (by omega) p3 hx, bS, if_neg (show ¬ (3 : Nat) = 0 by decide), if_pos rfl, fin01]
    have hd : decide (c k = 44 ∧ (k - e) / 4 < 4) = decide (c k = 44 ∧ k - e - 1 < 15) := by
      by_cases hz : c k = 44 ∧ k - e - 1 < 15
      · rw [decide_eq_true hz, decide_eq_true (by omega)]
      · rw [decide_eq_false hz, decide_eq_false (by omega)]
    rw [hd]
    refine ⟨_, rfl, (show ob (uI _ 3 7 3) = _ from (ob_I rfl).trans o1), fun hg => ?_⟩
    have hg' := of_decide_eq_true hg
    refine ⟨(show ob (uI _ 3 7 3) = _ from (ob_I rfl).trans o1), ⟨e1, e2, by omega, by omega⟩, ?_, p2, ?_, p4, fun i hi => p5 i (by omega), fun i hi => p6 i (by omega), fun i hi => p7 i (by omega)⟩
    · show (3 : Int32) = _
      rw [show (k + 1 - e - 1) % 4 = 0 by omega]
      rfl
    · show T.1 3 5 = _
      rw [p3, show (k + 1 - e) / 4 = (k - e) / 4 by omega]
