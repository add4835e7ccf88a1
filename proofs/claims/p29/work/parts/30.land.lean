/-- the cell at a column and a row, or -1 -/
def cel (a b : Int32) : Int32 := if (0 ≤ a.toInt ∧ a.toInt ≤ 5) ∧ 0 ≤ b.toInt ∧ b.toInt ≤ 5 then (6 : Int32) * a + b else -1
theorem s_celC (a b : Int32) (w : mW) : f_X10_cellAt a b w = some (cel a b) := by
  simp only [f_X10_cellAt, f_X10_cellAt_J40, f_X10_cellAt_J25, f_X10_cellAt_J24, lt_T, le_T, i0, show (6 : Int32).toInt = 6 from rfl]
  unfold cel
  by_cases h1 : a.toInt < 0
  · rw [if_pos h1, if_pos trivial, if_neg (by omega)]
  · by_cases h2 : 6 ≤ a.toInt
    · rw [if_neg h1, if_pos h2, if_pos trivial, if_neg (by omega)]
    · by_cases h3 : b.toInt < 0
      · rw [if_neg h1, if_neg h2, if_pos h3, if_pos trivial, if_neg (by omega)]
      · by_cases h4 : 6 ≤ b.toInt
        · rw [if_neg h1, if_neg h2, if_neg h3, if_pos h4, if_pos trivial, if_neg (by omega)]
        · rw [if_neg h1, if_neg h2, if_neg h3, if_neg h4, if_neg (by decide), if_pos (by omega)]
theorem cel_ok (a b : Int32) : cel a b = -1 ∨ ∃ q : Nat, q < 36 ∧ cel a b = nI q := by
  unfold cel
  by_cases h : (0 ≤ a.toInt ∧ a.toInt ≤ 5) ∧ 0 ≤ b.toInt ∧ b.toInt ≤ 5
  · rw [if_pos h]
    obtain ⟨i, i1, rfl, i3⟩ := nI_of' h.1.1
    obtain ⟨j, j1, rfl, j3⟩ := nI_of' h.2.1
    exact Or.inr ⟨6 * i + j, by omega, by rw [show (6 : Int32) = nI 6 from rfl, n_mul, n_add]⟩
  · rw [if_neg h]; exact Or.inl rfl
/-- where tosser j's pancake comes down, thrown at x in wind z -/
def lnd (S : mT) (j : Nat) (x z : Int32) : Int32 := cel (((x / (6 : Int32)) + S.2.1 45 j) - (2 : Int32)) ((((x - x / (6 : Int32) * (6 : Int32)) + S.2.1 46 j) - (2 : Int32)) + z)
theorem s_lndC {S : mT} {j t : Nat} (ht : t ≤ 4) (hj : j < t) (hT : NTurn S t 9 rNow) (x z : Int32) : f_X10_landing 0 (nI j) x z (mk S) = some (lnd S j x z) := by
  unfold f_X10_landing
  obtain ⟨t1, t2, t3⟩ := hT j hj
  rw [rR_0_3, bS, rR_9_3, bS, s_at (aG_13 S) (by decide) (show j < 4 by omega), bS, bS, rR_9_4, bS, s_at (aG_14 S) (by decide) (show j < 4 by omega), bS, s_celC, bS, show S.2.1 13 j = S.2.1 45 j from t1, show S.2.1 14 j = S.2.1 46 j from t2]
  rfl
-- who is under it
def spr (kd : Nat) (a b : Int32) : Option Int32 := match kd with
  | 0 => f_X8_spreads 0 a b []
  | 1 => f_X0_spreads 0 a b []
  | 2 => f_X9_spreads 0 a b []
  | 3 => f_X7_spreads 0 a b []
  | _ => Option.bind (f_X9_spreads 0 a b []) fun r1 => if r1 = 0 then some 0 else if a = 0 then if b = 0 then some 0 else some 1 else some 1
theorem s_dvs {S : mT} {kd e : Nat} (hk : kd ≤ 4) (h : S.2.2.2.2[e]? = some (.inl (cls kd, []))) (a b : Int32) : dv_spreads (some (e + 41)) a b (mk S) = spr kd a b := by
  unfold dv_spreads
  rw [s_tO hk h, bS]
  match kd, hk, h with
  | 0, _, _ => rw [if_pos (show cls 0 = 8 from rfl)]; simp only [spr, f_X8_spreads, f_X8_spreads_J18]
  | 1, _, _ => rw [if_neg (by decide), if_pos (show cls 1 = 0 from rfl)]; simp only [spr, f_X0_spreads, f_X0_spreads_J24, f_X0_spreads_J23]
  | 2, _, _ => rw [if_neg (by decide), if_neg (by decide), if_pos (show cls 2 = 9 from rfl)]; simp only [spr, f_X9_spreads, f_X9_spreads_J21, f_X9_spreads_J20]
  | 3, _, _ => rw [if_neg (by decide), if_neg (by decide), if_neg (by decide), if_pos (show cls 3 = 7 from rfl)]; simp only [spr, f_X7_spreads, f_X7_spreads_J17, f_X7_spreads_J16]
  | 4, _, h =>
    rw [if_neg (by decide), if_neg (by decide), if_neg (by decide), if_neg (by decide)]
    unfold f_X1_spreads
    have hk1 : kO (mk S) (some (e + 41)) 1 = some (e + 41) := by
      unfold kO
      simp only [kind_ix, h]
      rfl
    show Option.bind (kO (mk S) (some (e + 41)) 1) _ = _
    rw [hk1, bS]
    simp only [spr, f_X9_spreads, f_X9_spreads_J21, f_X9_spreads_J20, f_X1_spreads_J22, f_X1_spreads_J21, f_X1_spreads_J17, true_or, or_true, or_false, false_or, if_true, if_false, and_true, true_and, and_false, false_and, not_true_eq_false, not_false_eq_true]
theorem over_w (a b c : Int32) (w : mW) : f_L_over a b c w = f_L_over a b c [] := by
  simp only [f_L_over, f_L_over_J132, f_L_over_J131, f_L_over_J112, f_L_over_J92, f_L_over_J75, f_L_over_J70, f_L_over_J53]
theorem over_neg (a c : Int32) (w : mW) : f_L_over a (-1) c w = some 0 := by
  unfold f_L_over
  rw [if_neg (by decide)]
def rch (kd l c : Nat) : Bool := decide (f_L_over (nI kd) (nI l) (nI c) [] = some 1)
theorem k_rch : ∀ (kd : Fin 5) (l c : Fin 36), f_L_over (nI kd.val) (nI l.val) (nI c.val) [] = some (if rch kd.val l.val c.val = true then 1 else 0) ∧ spr kd.val ((nI c.val / 6) - (nI l.val / 6)) ((nI c.val - nI c.val / 6 * 6) - (nI l.val - nI l.val / 6 * 6)) = some (if rch kd.val l.val c.val = true then 1 else 0) := by decide +kernel
