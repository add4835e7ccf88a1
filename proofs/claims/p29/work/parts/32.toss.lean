-- 11 who
def hit (S : mT) (j : Nat) (x z : Int32) : Nat → Bool := fun k => decide (lnd S j (nI k) z = x)
theorem s_canC {S : mT} {t j : Nat} (ht : t ≤ 4) (hj : j < t) (hT : NTurn S t 9 rNow) (x : Int32) : f_X10_canLandAt 0 (nI j) x (mk S) = some (if anyB (hit S j x (S.1 9 8)) 36 = true then 1 else 0) := by
  have hl := (loopR (fun m k => f_X10_canLandAt_L2 0 (nI j) x (mk S) m (nI k)) (hit S j x (S.1 9 8)) (fun _ => Sum.inl 1) (Sum.inr ()) 36 0 mFuel ?_ ?_ (by unfold mFuel; omega)).trans (congrArg some (fst_any (hit S j x (S.1 9 8)) 36 (Sum.inl (1 : Int32)) (Sum.inr ())))
  · unfold f_X10_canLandAt
    rw [show f_X10_canLandAt_L2 0 (nI j) x (mk S) mFuel 0 = _ from hl, bS]
    by_cases h : anyB (hit S j x (S.1 9 8)) 36 = true
    · rw [if_pos h, if_pos h]
    · rw [if_neg h, if_neg h]
  · intro m k _ hk
    simp only [f_X10_canLandAt_L2]
    rw [if_neg (show ¬ (36 : Int32) ≤ nI k by rw [show (36 : Int32) = nI 36 from rfl, n_le (by omega) (by omega)]; omega), rR_0_3, bS, rI_9_8, bS, kk_0, bS, s_lndC ht hj hT, bS, nI_1]
    by_cases h : lnd S j (nI k) (S.1 9 8) = x
    · rw [if_pos h, if_pos (show hit S j x (S.1 9 8) k = true by unfold hit; simp [h])]
    · rw [if_neg h, if_neg (show ¬ hit S j x (S.1 9 8) k = true by unfold hit; simp [h])]
  · intro m
    simp only [f_X10_canLandAt_L2]
    rw [if_pos (by decide)]
-- 13 toss
def bat (kd : Nat) : Int32 := match kd with
  | 0 => 3 | 1 => 2 | 2 => 5 | 3 => 1 | _ => 4
theorem s_batC {S : mT} {kd e : Nat} (hk : kd ≤ 4) (h : S.2.2.2.2[e]? = some (.inl (cls kd, []))) : dv_batter (some (e + 41)) (mk S) = some (bat kd) := by
  unfold dv_batter
  rw [s_tO hk h, bS]
  match kd, hk with
  | 0, _ => rfl
  | 1, _ => rfl
  | 2, _ => rfl
  | 3, _ => rfl
  | 4, _ => rfl
def opn (S : mT) : Nat → Bool := fun k => decide (S.2.1 41 k = 0)
def cov2 (S : mT) (n a : Nat) : Nat → Int32 := cpy n (fun k => S.2.1 41 k ||| (if a.testBit k = true then 1 else 0)) (S.2.1 41)
