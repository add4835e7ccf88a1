-- what each call of the class does, as told by its own rows
theorem ne0 {n : Nat} (h : 1 ≤ n) : ¬ n = 0 := by omega
theorem c_wind {S : mT} {n : Nat} (h1 : 1 ≤ n) (hn : n ≤ 6) (e : S.1 0 7 = nI n) {v : Int32} (hv : -1 ≤ v.toInt ∧ v.toInt ≤ 1) : f_X10_wind 0 v (mk S) = some (S.1 9 8 + 1, mk (uI S 9 8 v)) := by
  unfold f_X10_wind
  rw [if_neg (show ¬ v < (-1 : Int32) by rw [lt_T]; show ¬ v.toInt < -1; omega), if_pos (show v ≤ (1 : Int32) by rw [le_T]; show v.toInt ≤ 1; omega)]
  refine bnd (kk_0 _) ?_
  refine bnd (s_hasPort hn e) ?_
  rw [if_neg (ne0 h1), if_neg (by decide)]
  refine bnd (rR_0_3 _) ?_
  refine bnd (rI_9_8 _) ?_
  refine bnd (rR_0_3 _) ?_
  refine bnd (wI_9_8 _ _) ?_
  rfl
theorem c_stir {S : mT} {n : Nat} (h1 : 1 ≤ n) (hn : n ≤ 6) (e : S.1 0 7 = nI n) {v : Int32} (hv : 1 ≤ v.toInt ∧ v.toInt ≤ 60) : f_X10_stir 0 v (mk S) = some (if S.1 9 9 + v ≤ 99 then (S.1 9 9 + v, mk (uI S 9 9 (S.1 9 9 + v))) else (-104, mk S)) := by
  unfold f_X10_stir
  rw [if_neg (show ¬ v < (1 : Int32) by rw [lt_T]; show ¬ v.toInt < 1; omega), if_pos (show v ≤ (60 : Int32) by rw [le_T]; show v.toInt ≤ 60; omega)]
  refine bnd (kk_0 _) ?_
  refine bnd (s_hasPort hn e) ?_
  rw [if_neg (ne0 h1), if_neg (by decide)]
  refine bnd (rR_0_3 _) ?_
  refine bnd (rI_9_9 _) ?_
  by_cases h : S.1 9 9 + v ≤ 99
  · rw [if_pos h, if_pos h]
    refine bnd (rR_0_3 _) ?_
    refine bnd (rI_9_9 _) ?_
    refine bnd (wI_9_9 _ _) ?_
    refine bnd (rR_0_3 _) ?_
    refine bnd (rI_9_9 _) ?_
    rw [uI_s]
  · rw [if_neg h, if_neg h]
def wkC (S : mT) (n : Nat) (p : Nat → Bool) : mT := uI (uI (uA (uA S 11 (cpy n (fun j => if p j = true then S.2.1 11 j + 1 else S.2.1 11 j) (S.2.1 11))) 12 (cpy n (fun j => if p j = true then S.2.1 12 j else S.2.1 12 j + 1) (S.2.1 12))) 9 7 0) 9 10 (S.1 9 10 + 1)
theorem c_morning {S : mT} {n x : Nat} {p : Nat → Bool} (h1 : 1 ≤ n) (hn : n ≤ 6) (e : S.1 0 7 = nI n) (e2 : S.1 9 10 = nI x) (hx : x < 999) (hc : S.1 9 7 = nI (bN p n)) : f_X10_morning 0 (mk S) = some (nI (pop (bN p n)), mk (wkC S n p)) := by
  unfold f_X10_morning
  refine bnd (kk_0 _) ?_
  refine bnd (s_hasPort hn e) ?_
  rw [if_neg (ne0 h1), if_neg (by decide)]
  refine bnd (rR_0_3 _) ?_
  refine bnd (rI_9_10 _) ?_
  rw [e2, if_pos (show nI x < (999 : Int32) by rw [show (999 : Int32) = nI 999 from rfl, n_lt (by omega) (by omega)]; omega)]
  refine bnd (rR_0_3 _) ?_
  refine bnd (rI_9_7 _) ?_
  rw [hc]
  refine bnd (s_bc (bN_lt64 hn) _) ?_
  refine bnd (rR_0_3 _) ?_
  refine bnd (rI_0_7 _) ?_
  rw [e]
  refine bnd (kk_9 _) ?_
  refine bnd (s_wake hn hc) ?_
  rfl
def mvC (S : mT) (i : Nat) (x : Int32) : mT := uI (uA S 10 (upd (S.2.1 10) i x)) 9 7 (S.1 9 7 &&& (((1 : Int32) <<< (nI i &&& 31)) ^^^ (-1)))
theorem c_move {S : mT} {n i q : Nat} (h1 : 1 ≤ n) (hn : n ≤ 6) (e : S.1 0 7 = nI n) (hi : i < n) (hq : q < 36) : f_X10_move 0 (nI i) (nI q) (mk S) = some (if anyB (tk (S.2.1 10) i (nI q)) n = true then (-103, mk S) else (S.2.1 10 i, mk (mvC S i (nI q)))) := by
  have hi' : (nI i).toInt = i := nT (by omega)
  have hq' : (nI q).toInt = q := nT (by omega)
  unfold f_X10_move
  refine bnd (kk_0 _) ?_
  refine bnd (s_isSlC hn e _) ?_
  rw [if_pos (show 0 ≤ (nI i).toInt ∧ (nI i).toInt < n by omega), if_neg (by decide)]
  refine bnd (kk_0 _) ?_
  refine bnd (s_isCellC hn e _) ?_
  rw [if_pos (show n ≠ 0 ∧ 0 ≤ (nI q).toInt ∧ (nI q).toInt ≤ 35 by omega), if_neg (by decide)]
  refine bnd (kk_0 _) ?_
  refine bnd (s_taken hn e _ (by omega)) ?_
  by_cases h : anyB (tk (S.2.1 10) i (nI q)) n = true
  · rw [if_pos h, if_neg (by decide), if_pos h]
  · rw [if_neg h, if_pos rfl, if_neg h]
    refine bnd (rR_0_3 _) ?_
    refine bnd (rR_9_0 _) ?_
    refine bnd (s_at (aG_10 S) (by decide) (show i < 6 by omega)) ?_
    refine bnd (rR_0_3 _) ?_
    refine bnd (rR_9_0 _) ?_
    refine bnd ((s_put (aG_10 S) (by decide) (show i < 6 by omega) _).trans (congrArg some (aW_10 _ _))) ?_
    refine bnd (rR_0_3 _) ?_
    refine bnd (rI_9_7 _) ?_
    refine bnd (wI_9_7 _ _) ?_
    rfl
def trC (S : mT) (j : Nat) (u v : Int32) : mT := uA (uA S 13 (upd (S.2.1 13) j u)) 14 (upd (S.2.1 14) j v)
theorem c_train {S : mT} {t j a b : Nat} (ht : t ≤ 4) (e : S.1 0 8 = nI t) (hK : KR S t) (hj : j < t) (ha : a ≤ 4) (hb : b ≤ 4) : f_X10_train 0 (nI j) (nI a) (nI b) (mk S) = some (S.2.1 14 j, mk (trC S j (nI a) (nI b))) := by
  obtain ⟨kd, e0, g1, g2, g3, g4⟩ := hK j hj
  have ha' : (nI a).toInt = a := nT (by omega)
  have hb' : (nI b).toInt = b := nT (by omega)
  unfold f_X10_train
  refine bnd (kk_0 _) ?_
  refine bnd (s_taS ht e hj) ?_
  rw [g3, oC_s]
  refine bnd (s_isTurn _ _) ?_
  rw [if_pos (show 0 ≤ (nI a).toInt ∧ (nI a).toInt ≤ 4 by omega), if_neg (by decide)]
  refine bnd (s_isTurn _ _) ?_
  rw [if_pos (show 0 ≤ (nI b).toInt ∧ (nI b).toInt ≤ 4 by omega), if_neg (by decide)]
  refine bnd (rR_0_3 _) ?_
  refine bnd (rR_9_4 _) ?_
  refine bnd (s_at (aG_14 S) (by decide) (show j < 4 by omega)) ?_
  refine bnd (rR_0_3 _) ?_
  refine bnd (rR_9_3 _) ?_
  refine bnd ((s_put (aG_13 S) (by decide) (show j < 4 by omega) _).trans (congrArg some (aW_13 _ _))) ?_
  refine bnd (rR_0_3 _) ?_
  refine bnd (rR_9_4 _) ?_
  refine bnd ((s_put (aG_14 _) (by decide) (show j < 4 by omega) _).trans (congrArg some (aW_14 _ _))) ?_
  rfl
theorem c_as {S : mT} {t j v kd : Nat} (ht : t ≤ 4) (e : S.1 0 8 = nI t) (hK : KR S t) (hj : j < t) (hv : v ≤ 4) (ek : S.2.1 44 j = nI kd) (hkd : kd ≤ 4) : f_X10_as 0 (nI j) (nI v) (mk S) = some (if v = 0 ∨ v = kd ∨ (v = 2 ∧ kd = 4) then nI j else -1) := by
  obtain ⟨kd', e0, g1, g2, g3, g4⟩ := hK j hj
  have hkk : kd' = kd := by
    have h1 := g2.symm.trans ek
    rw [n_eq (by omega) (by omega)] at h1
    exact h1
  subst hkk
  unfold f_X10_as f_X10_as_J38
  refine bnd (kk_0 _) ?_
  refine bnd (s_taS ht e hj) ?_
  rw [g3, oC_s, if_neg (show ¬ nI v < 0 by rw [show (0 : Int32) = nI 0 from rfl, n_lt (by omega) (by omega)]; omega), if_pos (show nI v ≤ (4 : Int32) by rw [show (4 : Int32) = nI 4 from rfl, n_le (by omega) (by omega)]; omega)]
  have key : f_X10_isOfKind (some (e0 + 41)) (nI v) (mk S) = some (if v = 0 ∨ v = kd' ∨ (v = 2 ∧ kd' = 4) then 1 else 0) := by
    simp only [f_X10_isOfKind, f_X10_isOfKind_J45, s_iO g1 g4, oC_s, oC_n, bS]
    match v, hv, kd', g1 with
    | 0, _, 0, _ => rfl
    | 0, _, 1, _ => rfl
    | 0, _, 2, _ => rfl
    | 0, _, 3, _ => rfl
    | 0, _, 4, _ => rfl
    | 1, _, 0, _ => rfl
    | 1, _, 1, _ => rfl
    | 1, _, 2, _ => rfl
    | 1, _, 3, _ => rfl
    | 1, _, 4, _ => rfl
    | 2, _, 0, _ => rfl
    | 2, _, 1, _ => rfl
    | 2, _, 2, _ => rfl
    | 2, _, 3, _ => rfl
    | 2, _, 4, _ => rfl
    | 3, _, 0, _ => rfl
    | 3, _, 1, _ => rfl
    | 3, _, 2, _ => rfl
    | 3, _, 3, _ => rfl
    | 3, _, 4, _ => rfl
    | 4, _, 0, _ => rfl
    | 4, _, 1, _ => rfl
    | 4, _, 2, _ => rfl
    | 4, _, 3, _ => rfl
    | 4, _, 4, _ => rfl
  refine bnd key ?_
  by_cases h : v = 0 ∨ v = kd' ∨ (v = 2 ∧ kd' = 4)
  · rw [if_pos h, if_neg (by decide), if_pos h]
  · rw [if_neg h, if_pos rfl, if_neg h]
theorem c_lands {S : mT} {n t j q : Nat} (h1 : 1 ≤ n) (hn : n ≤ 6) (ht : t ≤ 4) (h2 : 1 ≤ t) (e : S.1 0 7 = nI n) (e2 : S.1 0 8 = nI t) (hK : KR S t) (hT : NTurn S t 9 rNow) (hj : j < t) (hq : q < 36) : f_X10_lands 0 (nI j) (nI q) (mk S) = some (lnd S j (nI q) (S.1 9 8)) := by
  have hj' : (nI j).toInt = j := nT (by omega)
  have hq' : (nI q).toInt = q := nT (by omega)
  unfold f_X10_lands
  refine bnd (kk_0 _) ?_
  refine bnd (s_isTossC hn ht (show n = 0 ↔ t = 0 by omega) e e2 hK _ _) ?_
  rw [if_pos (show (0 ≤ (nI j).toInt ∧ (nI j).toInt < t) ∧ 0 ≤ (nI q).toInt ∧ (nI q).toInt ≤ 35 by omega), if_neg (by decide)]
  refine bnd (rR_0_3 _) ?_
  refine bnd (rI_9_8 _) ?_
  refine bnd (kk_0 _) ?_
  refine bnd (s_lndC ht hj hT _ _) ?_
  rfl
theorem c_covers {S : mT} {n t j q : Nat} (h1 : 1 ≤ n) (hn : n ≤ 6) (ht : t ≤ 4) (h2 : 1 ≤ t) (e : S.1 0 7 = nI n) (e2 : S.1 0 8 = nI t) (hK : KR S t) (hC : NCells S n 9 rNow) (hT : NTurn S t 9 rNow) (hj : j < t) (hq : q < 36) : f_X10_covers 0 (nI j) (nI q) (mk S) = some (nI (bN (cvr S j (nI q) (S.1 9 8)) n)) := by
  have hj' : (nI j).toInt = j := nT (by omega)
  have hq' : (nI q).toInt = q := nT (by omega)
  unfold f_X10_covers
  refine bnd (kk_0 _) ?_
  refine bnd (s_isTossC hn ht (show n = 0 ↔ t = 0 by omega) e e2 hK _ _) ?_
  rw [if_pos (show (0 ≤ (nI j).toInt ∧ (nI j).toInt < t) ∧ 0 ≤ (nI q).toInt ∧ (nI q).toInt ≤ 35 by omega), if_neg (by decide)]
  refine bnd (rR_0_3 _) ?_
  refine bnd (rI_9_8 _) ?_
  refine bnd (kk_0 _) ?_
  refine bnd (s_crw hn ht e e2 hK hj hC hT _ _) ?_
  rfl
theorem c_odds {S : mT} {n t i j q : Nat} (h1 : 1 ≤ n) (hn : n ≤ 6) (ht : t ≤ 4) (h2 : 1 ≤ t) (e : S.1 0 7 = nI n) (e2 : S.1 0 8 = nI t) (hK : KR S t) (hC : NCells S n 9 rNow) (hT : NTurn S t 9 rNow) (hi : i < n) (hj : j < t) (hq : q < 36) : f_X10_odds 0 (nI i) (nI j) (nI q) (mk S) = some (0 + (if cvr S j (nI q) (-1) i = true then 1 else 0) + (if cvr S j (nI q) (-1 + 1) i = true then 1 else 0) + (if cvr S j (nI q) (-1 + 1 + 1) i = true then 1 else 0)) := by
  have hi' : (nI i).toInt = i := nT (by omega)
  have hj' : (nI j).toInt = j := nT (by omega)
  have hq' : (nI q).toInt = q := nT (by omega)
  unfold f_X10_odds
  refine bnd (kk_0 _) ?_
  refine bnd (s_isSlC hn e _) ?_
  rw [if_pos (show 0 ≤ (nI i).toInt ∧ (nI i).toInt < n by omega), if_neg (by decide)]
  refine bnd (kk_0 _) ?_
  refine bnd (s_isTossC hn ht (show n = 0 ↔ t = 0 by omega) e e2 hK _ _) ?_
  rw [if_pos (show (0 ≤ (nI j).toInt ∧ (nI j).toInt < t) ∧ 0 ≤ (nI q).toInt ∧ (nI q).toInt ≤ 35 by omega), if_neg (by decide)]
  rw [show mFuel = 996 + 1 + 1 + 1 + 1 from rfl]
  generalize 996 = m
  rw [s_odC hn ht e e2 hK hj hi hC hT _ _ _ _ (by decide), s_odC hn ht e e2 hK hj hi hC hT _ _ _ _ (by decide), s_odC hn ht e e2 hK hj hi hC hT _ _ _ _ (by decide)]
  simp only [f_X10_odds_L26]
  rw [if_pos (show (1 : Int32) < -1 + 1 + 1 + 1 by decide)]
  rfl
theorem c_who {S : mT} {n t q : Nat} (h1 : 1 ≤ n) (hn : n ≤ 6) (ht : t ≤ 4) (e : S.1 0 7 = nI n) (e2 : S.1 0 8 = nI t) (hT : NTurn S t 9 rNow) (hq : q < 36) : f_X10_who 0 (nI q) (mk S) = some (nI (bN (fun j => anyB (hit S j (nI q) (S.1 9 8)) 36) t)) := by
  have hq' : (nI q).toInt = q := nT (by omega)
  unfold f_X10_who
  refine bnd (kk_0 _) ?_
  refine bnd (s_isCellC hn e _) ?_
  rw [if_pos (show n ≠ 0 ∧ 0 ≤ (nI q).toInt ∧ (nI q).toInt ≤ 35 by omega), if_neg (by decide)]
  have hc := loopG (fun m a k => f_X10_who_L15 0 (nI q) (mk S) m a (nI k)) t (fun k a => if anyB (hit S k (nI q) (S.1 9 8)) 36 then a ||| ((1 : Int32) <<< (nI k &&& 31)) else a) id 0 ?_ ?_ mFuel (by unfold mFuel; omega)
  · rw [it_bits (fun j => anyB (hit S j (nI q) (S.1 9 8)) 36) (show t ≤ 6 by omega)] at hc
    rw [show f_X10_who_L15 0 (nI q) (mk S) mFuel 0 0 = _ from hc, bS]
    rfl
  · intro m k a hk
    simp only [f_X10_who_L15, f_X10_who_J38]
    rw [rI_0_8, bS, e2, if_neg (show ¬ nI t ≤ nI k by rw [n_le (by omega) (by omega)]; omega), kk_0, bS, s_canC ht hk hT, bS, nI_1]
    by_cases h : anyB (hit S k (nI q) (S.1 9 8)) 36 = true
    · rw [if_pos h, if_pos h, if_neg (by decide)]
    · rw [if_neg h, if_neg h, if_pos rfl]
  · intro m a
    simp only [f_X10_who_L15]
    rw [rI_0_8, bS, e2, if_pos (show nI t ≤ nI t by rw [n_le (by omega) (by omega)]; omega)]
    rfl
