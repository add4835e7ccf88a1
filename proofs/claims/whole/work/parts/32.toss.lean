-- 11 who
def hit (S : mT) (j : Nat) (x z : Int32) : Nat → Bool := fun k => decide (lnd S j (nI k) z = x)
theorem s_canC {S : mT} {t j : Nat} (ht : t ≤ 4) (hj : j < t) (hT : NTurn S t 9 rNow) (x : Int32) : f_X10_canLandAt 0 (nI j) x (mk S) = some (if anyB (hit S j x (S.1 9 8)) 36 = true then 1 else 0) := by
  have hl := (loopR (fun m k => f_X10_canLandAt_L2 0 (nI j) x (mk S) m (nI k)) (hit S j x (S.1 9 8)) (fun _ => Sum.inl 1) (Sum.inr ()) 36 0 mFuel ?_ ?_ (by unfold mFuel; omega)).trans (congrArg some (fst_any (hit S j x (S.1 9 8)) 36 (Sum.inl (1 : Int32)) (Sum.inr ())))
  · unfold f_X10_canLandAt
    rw [show f_X10_canLandAt_L2 0 (nI j) x (mk S) mFuel 0 = _ from hl, bS]
    by_cases h : anyB (hit S j x (S.1 9 8)) 36 = true
    · rw [if_pos h, if_pos h]
    · rw [if_neg h, if_neg h]
  · intro m k _ hk
    simp only [f_X10_canLandAt_L2]
    rw [if_neg (show ¬ (36 : Int32) ≤ nI k by rw [show (36 : Int32) = nI 36 from rfl, n_le (by omega) (by omega)]; omega), rR_0_3, bS, rI_9_8, bS, kk_0, bS, s_lndC ht hj hT, bS, nI_1]
    by_cases h : lnd S j (nI k) (S.1 9 8) = x
    · rw [if_pos h, if_pos (show hit S j x (S.1 9 8) k = true by unfold hit; simp [h])]
    · rw [if_neg h, if_neg (show ¬ hit S j x (S.1 9 8) k = true by unfold hit; simp [h])]
  · intro m
    simp only [f_X10_canLandAt_L2]
    rw [if_pos (by decide)]
theorem or_idem (a b : Int32) : a ||| b ||| b = a ||| b := by rw [Int32.or_assoc, Int32.or_self]
theorem it_or (p : Nat → Bool) (b : Int32) (a : Int32) : ∀ n, it (fun k x => if p k = true then x ||| b else x) n a = if anyB p n = true then a ||| b else a
  | 0 => rfl
  | n + 1 => by
    rw [it, it_or p b a n, anyB]
    by_cases h : anyB p n = true
    · rw [if_pos h, or_idem, ite_self, h, Bool.true_or, if_pos rfl]
    · have h' : anyB p n = false := by simpa using h
      rw [if_neg h, h', Bool.false_or]
theorem s_whoI {S : mT} {j : Nat} (hj : j < 4) (x a : Int32) : f_X11_whoOf_L15 38 x (nI j) (mk S) mFuel a 0 = some (if anyB (hit S j x (S.1 38 5)) 36 = true then a ||| ((1 : Int32) <<< (nI j &&& 31)) else a) := by
  have hl := loopG (fun m a k => f_X11_whoOf_L15 38 x (nI j) (mk S) m a (nI k)) 36 (fun k a => if hit S j x (S.1 38 5) k = true then a ||| ((1 : Int32) <<< (nI j &&& 31)) else a) id a ?_ ?_ mFuel (by unfold mFuel; omega)
  · rw [it_or] at hl
    exact hl
  · intro m k a hk
    simp only [f_X11_whoOf_L15, f_X11_whoOf_J45]
    rw [if_neg (show ¬ (36 : Int32) ≤ nI k by rw [show (36 : Int32) = nI 36 from rfl, n_le (by omega) (by omega)]; omega), rI_38_5, bS, kk_38, bS, s_lndR hj, bS, nI_1]
    by_cases h : lnd S j (nI k) (S.1 38 5) = x
    · rw [if_pos h, if_pos (show hit S j x (S.1 38 5) k = true by unfold hit; simp [h])]
    · rw [if_neg h, if_neg (show ¬ hit S j x (S.1 38 5) k = true by unfold hit; simp [h]), n_or0]
  · intro m a
    simp only [f_X11_whoOf_L15]
    rw [if_pos (by decide)]
    rfl
theorem op_who {N : Nat} {S : mT} (h : Inv N S) (x : Int32) : ∃ r, f_X10_who 0 x (mk S) = some r ∧ f_X11_who 38 x (mk S) = some r := by
  obtain ⟨n, t, p, L, ⟨a1, a2, a3, a4, a5, a6, a7⟩, ⟨b1, b2, b3, b4, b5, b6, b7, b8⟩, hP, hK, hN, hI⟩ := id h
  obtain ⟨g1, g2, g3, g4, g5, g6, g7⟩ := hN
  have g6' : S.1 9 8 = S.1 38 5 := g6
  unfold f_X10_who f_X11_who f_X11_who_J24 f_X11_who_J22
  simp only [kk_0, kk_38, bS, s_isCellC a1 b1, s_isCellR, s_lacks a1 b2, ite01, ite10]
  by_cases hn : n = 0
  · rw [if_pos (show ¬ (n ≠ 0 ∧ 0 ≤ x.toInt ∧ x.toInt ≤ 35) from fun z => z.1 hn), if_neg (show ¬ ¬ n = 0 from fun z => z hn)]
    exact ⟨_, rfl, rfl⟩
  · rw [if_pos (show ¬ n = 0 from hn)]
    by_cases hx : 0 ≤ x.toInt ∧ x.toInt ≤ 35
    · rw [if_neg (show ¬ ¬ (n ≠ 0 ∧ 0 ≤ x.toInt ∧ x.toInt ≤ 35) from fun z => z ⟨hn, hx⟩), if_neg (show ¬ ¬ (0 ≤ x.toInt ∧ x.toInt ≤ 35) from fun z => z hx)]
      have hc := loopG (fun m a k => f_X10_who_L15 0 x (mk S) m a (nI k)) t (fun k a => if anyB (hit S k x (S.1 38 5)) 36 then a ||| ((1 : Int32) <<< (nI k &&& 31)) else a) id 0 ?_ ?_ mFuel (by unfold mFuel; omega)
      · have hr := loopG (fun m a k => f_X11_whoOf_L4 38 x (mk S) m a (nI k)) t (fun k a => if anyB (hit S k x (S.1 38 5)) 36 then a ||| ((1 : Int32) <<< (nI k &&& 31)) else a) id 0 ?_ ?_ mFuel (by unfold mFuel; omega)
        · unfold f_X11_whoOf
          rw [show f_X10_who_L15 0 x (mk S) mFuel 0 0 = _ from hc, show f_X11_whoOf_L4 38 x (mk S) mFuel 0 0 = _ from hr]
          exact ⟨_, rfl, rfl⟩
        · intro m k a hk
          simp only [f_X11_whoOf_L4]
          rw [rI_38_4, bS, b4, if_neg (show ¬ nI t ≤ nI k by rw [n_le (by omega) (by omega)]; omega), s_whoI (show k < 4 by omega), bS, nI_1]
        · intro m a
          simp only [f_X11_whoOf_L4]
          rw [rI_38_4, bS, b4, if_pos (show nI t ≤ nI t by rw [n_le (by omega) (by omega)]; omega)]
          rfl
      · intro m k a hk
        simp only [f_X10_who_L15, f_X10_who_J38]
        rw [rI_0_8, bS, b3, if_neg (show ¬ nI t ≤ nI k by rw [n_le (by omega) (by omega)]; omega), kk_0, bS, s_canC a2 hk g5, bS, nI_1, g6']
        by_cases h : anyB (hit S k x (S.1 38 5)) 36 = true
        · rw [if_pos h, if_pos h, if_neg (by decide)]
        · rw [if_neg h, if_neg h, if_pos rfl]
      · intro m a
        simp only [f_X10_who_L15]
        rw [rI_0_8, bS, b3, if_pos (show nI t ≤ nI t by rw [n_le (by omega) (by omega)]; omega)]
        rfl
    · rw [if_pos (show ¬ (n ≠ 0 ∧ 0 ≤ x.toInt ∧ x.toInt ≤ 35) from fun z => hx z.2), if_pos (show ¬ (0 ≤ x.toInt ∧ x.toInt ≤ 35) from hx)]
      exact ⟨_, rfl, rfl⟩
-- 13 toss
def bat (kd : Nat) : Int32 := match kd with
  | 0 => 3 | 1 => 2 | 2 => 5 | 3 => 1 | _ => 4
theorem s_batC {S : mT} {kd e : Nat} (hk : kd ≤ 4) (h : S.2.2.2.2[e]? = some (.inl (cls kd, []))) : dv_batter (some (e + 60)) (mk S) = some (bat kd) := by
  unfold dv_batter
  rw [s_tO hk h, bS]
  match kd, hk with
  | 0, _ => rfl
  | 1, _ => rfl
  | 2, _ => rfl
  | 3, _ => rfl
  | 4, _ => rfl
theorem s_batR {kd : Nat} (hk : kd ≤ 4) (w : mW) : f_X11_batterOf (nI kd) w = some (bat kd) := by
  match kd, hk with
  | 0, _ => rfl
  | 1, _ => rfl
  | 2, _ => rfl
  | 3, _ => rfl
  | 4, _ => rfl
def opn (S : mT) : Nat → Bool := fun k => decide (S.2.1 41 k = 0)
theorem s_open {S : mT} {n : Nat} (hn : n ≤ 6) (e : S.1 38 3 = nI n) : f_X11_open 38 (mk S) = some (nI (bN (opn S) n)) := by
  have hl := loopG (fun m a k => f_X11_open_L4 38 (mk S) m a (nI k)) n (fun k a => if opn S k then a ||| ((1 : Int32) <<< (nI k &&& 31)) else a) id 0 ?_ ?_ mFuel (by unfold mFuel; omega)
  · rw [it_bits _ hn] at hl
    unfold f_X11_open
    rw [show f_X11_open_L4 38 (mk S) mFuel 0 0 = _ from hl, bS]
    rfl
  · intro m k a hk
    simp only [f_X11_open_L4, f_X11_open_J29]
    rw [rI_38_3, bS, e, if_neg (show ¬ nI n ≤ nI k by rw [n_le (by omega) (by omega)]; omega), rR_38_11, bS, aL_41 S (by omega), bS, nI_1]
    by_cases h : S.2.1 41 k = 0
    · rw [if_pos h, if_pos (show opn S k = true by unfold opn; simp [h])]
    · rw [if_neg h, if_neg (show ¬ opn S k = true by unfold opn; simp [h]), n_or0]
  · intro m a
    simp only [f_X11_open_L4]
    rw [rI_38_3, bS, e, if_pos (show nI n ≤ nI n by rw [n_le (by omega) (by omega)]; omega)]
    rfl
def cov2 (S : mT) (n a : Nat) : Nat → Int32 := cpy n (fun k => S.2.1 41 k ||| (if a.testBit k = true then 1 else 0)) (S.2.1 41)
theorem r_tossL {S : mT} {n a : Nat} (hn : n ≤ 6) (ha : a < 64) (e : S.1 38 3 = nI n) (x : Int32) : f_X11_toss_L69 38 x (nI a) mFuel 0 (mk S) = some (mk (uA S 41 (cov2 S n a))) := by
  have hl := loopK (fun m k => f_X11_toss_L69 38 x (nI a) m (nI k) (mk (uA S 41 (cov2 S k a)))) n (mk (uA S 41 (cov2 S n a))) ?_ (fun m => ?he) mFuel (by unfold mFuel; omega)
  case he =>
    simp only [f_X11_toss_L69]
    rw [rI_38_3, bS, uA_1, e, if_pos (show nI n ≤ nI n by rw [n_le (by omega) (by omega)]; omega)]
  · have h0 : uA S 41 (cov2 S 0 a) = S := by
      unfold cov2
      rw [cpy_0, uA_id]
    rw [h0] at hl
    exact hl
  · intro m k hk
    have h6 : k < 6 := by omega
    simp only [f_X11_toss_L69]
    rw [rI_38_3, bS, uA_1, e, if_neg (show ¬ nI n ≤ nI k by rw [n_le (by omega) (by omega)]; omega), rR_38_11, bS, aL_41 _ h6, bS, aS_41 _ _ h6, bS, uA_s, uA_u, nI_1, n_bit ha h6]
    have : upd (cov2 S k a) k (cov2 S k a k ||| if a.testBit k = true then 1 else 0) = cov2 S (k + 1) a := by
      unfold cov2
      rw [cpy_at, ← cpy_s (n := k) (s := fun k => S.2.1 41 k ||| (if a.testBit k = true then 1 else 0))]
    rw [this]
