-- the law's own small methods
theorem l_batter {kd : Nat} (hk : kd ≤ 4) (w : mW) : f_L_batter (nI kd) w = some (bat kd) := by
  match kd, hk with
  | 0, _ => rfl
  | 1, _ => rfl
  | 2, _ => rfl
  | 3, _ => rfl
  | 4, _ => rfl
theorem l_in {a k : Nat} (ha : a < 64) (hk : k < 6) (w : mW) : f_L_in (nI a) (nI k) w = some (if a.testBit k = true then 1 else 0) := by
  unfold f_L_in f_L_in_J14
  rw [n_bit ha hk]
  cases a.testBit k
  · rfl
  · rfl
theorem l_sizeL (x : Int32) (w : mW) : ∀ (n : Nat) (a b : Int32), f_L_size_L4 x w n a b = f_L_size_L4 x [] n a b
  | 0, _, _ => rfl
  | n + 1, a, b => by simp only [f_L_size_L4, l_sizeL x w n]
theorem l_size_w (x : Int32) (w : mW) : f_L_size x w = f_L_size x [] := by
  unfold f_L_size
  rw [l_sizeL]
theorem k_size : ∀ a : Fin 64, f_L_size (nI a.val) [] = some (nI (pop a.val)) := by decide +kernel
theorem l_size {a : Nat} (ha : a < 64) (w : mW) : f_L_size (nI a) w = some (nI (pop a)) := by
  rw [l_size_w]
  exact k_size ⟨a, ha⟩
/-- half of a cell of the script, by a number -/
def atN (x : Int32) (m : Nat) : Nat := (x.toUInt32 >>> 1).toNat % m
theorem atN_lt (x : Int32) {m : Nat} (hm : 0 < m) : atN x m < m := Nat.mod_lt _ hm
theorem half_ok (x : Int32) : (x.toUInt32 >>> ((1 : Int32).toUInt32 &&& Int32.toUInt32 31)).toInt32 = nI (x.toUInt32 >>> 1).toNat ∧ (x.toUInt32 >>> 1).toNat < 2 ^ 31 := by
  have h1 : ((1 : Int32).toUInt32 &&& Int32.toUInt32 31) = 1 := by decide
  rw [h1]
  have h2 : (x.toUInt32 >>> 1).toNat < 2 ^ 31 := by
    rw [UInt32.toNat_shiftRight]
    have := x.toUInt32.toNat_lt
    show x.toUInt32.toNat >>> 1 < 2 ^ 31
    rw [Nat.shiftRight_eq_div_pow]
    omega
  refine ⟨?_, h2⟩
  apply Int32.toBitVec_inj.mp
  show (x.toUInt32 >>> 1).toBitVec = BitVec.ofNat 32 (x.toUInt32 >>> 1).toNat
  apply BitVec.eq_of_toNat_eq
  rw [BitVec.toNat_ofNat]
  exact (Nat.mod_eq_of_lt (Nat.lt_trans h2 (by decide))).symm
theorem l_at (x : Int32) {m : Nat} (hm : 0 < m) (hm2 : m < 2 ^ 31) (w : mW) : f_L_at x (nI m) w = some (nI (atN x m)) := by
  obtain ⟨h1, h2⟩ := half_ok x
  unfold f_L_at atN
  rw [if_neg (show ¬ nI m = 0 by rw [show (0 : Int32) = nI 0 from rfl, n_eq (by omega) (by omega)]; omega), h1, n_rem h2 hm2]
def cellN (X : mXs) (k : Nat) : Int32 := if k < X.1 then X.2 k else (747796405 : Int32) * (nI k + (1 : Int32))
theorem l_cell (X : mXs) (hL : X.1 ≤ 260) {k : Nat} (hk : k < 1000) (w : mW) : f_L_cell X (nI k) w = some (cellN X k) := by
  unfold f_L_cell f_L_cell_J18 cellN
  rw [show Int32.ofNat X.1 = nI X.1 from rfl]
  by_cases h : k < X.1
  · have e := ix h (show X.1 < 2 ^ 31 by omega)
    rw [if_neg (show ¬ nI X.1 ≤ nI k by rw [n_le (by omega) (by omega)]; omega), if_pos h]
    unfold mS
    rw [e.1, if_pos ⟨h, e.2⟩, bS]
  · rw [if_pos (show nI X.1 ≤ nI k by rw [n_le (by omega) (by omega)]; omega), if_neg h]
theorem l_after {s : Nat} (hs : s < 2 ^ 31) (w : mW) : f_L_after (Int64.ofNat s) w = some (Int64.ofNat (nx s)) := by
  unfold f_L_after nx
  rw [show (1103515245 : Int64) = Int64.ofNat 1103515245 from rfl, show (12345 : Int64) = Int64.ofNat 12345 from rfl, ← Int64.ofNat_mul, ← Int64.ofNat_add, show (2147483648 : Int64) = Int64.ofNat 2147483648 from rfl, ← Int64.ofNat_div (by omega) (by decide), ← Int64.ofNat_mul, ← Int64.ofNat_sub _ _ (Nat.div_mul_le_self _ _)]
  refine congrArg some (congrArg Int64.ofNat ?_)
  rw [Nat.mul_comm s]
  omega
theorem l_lands {S : mT} {j : Nat} (hj : j < 4) (x z : Int32) : f_L_lands (some 39) (nI j) x z (mk S) = some (lnd S j x z) := by
  unfold f_L_lands
  refine bnd (dp24_L S hj) ?_
  refine bnd (dp28_L S hj) ?_
  unfold lnd cel f_L_lands_J54 f_L_lands_J66
  generalize ((x / (6 : Int32)) + S.2.1 45 j) - (2 : Int32) = a
  generalize (((x - x / (6 : Int32) * (6 : Int32)) + S.2.1 46 j) - (2 : Int32)) + z = b
  simp only [lt_T, le_T, i0, show (5 : Int32).toInt = 5 from rfl]
  by_cases h1 : a.toInt < 0
  · rw [if_pos h1, if_neg (by omega)]
  · by_cases h2 : 5 < a.toInt
    · rw [if_neg h1, if_pos h2, if_neg (by omega)]
    · by_cases h3 : b.toInt < 0
      · rw [if_neg h1, if_neg h2, if_pos h3, if_neg (by omega)]
      · by_cases h4 : b.toInt ≤ 5
        · rw [if_neg h1, if_neg h2, if_neg h3, if_pos h4, if_pos (by omega)]
        · rw [if_neg h1, if_neg h2, if_neg h3, if_neg h4, if_neg (by omega)]
theorem l_covers {S : mT} {n t j : Nat} (hn : n ≤ 6) (ht : t ≤ 4) (e : S.1 38 3 = nI n) (hK : KR S t) (hj : j < t) (hC : NCells S n 9 rNow) (x z : Int32) : f_L_covers (some 38) (some 39) (nI j) x z (mk S) = some (nI (bN (cvr S j x z) n)) := by
  have hl := loopG (fun m a k => f_L_covers_L16 (some 38) (some 39) (nI j) (lnd S j x z) (mk S) m a (nI k)) n (fun k a => if cvr S j x z k then a ||| ((1 : Int32) <<< (nI k &&& 31)) else a) id 0 ?_ ?_ mFuel (by unfold mFuel; omega)
  · rw [it_bits _ hn] at hl
    unfold f_L_covers
    refine bnd (l_lands (by omega) x z) ?_
    rw [show f_L_covers_L16 (some 38) (some 39) (nI j) (lnd S j x z) (mk S) mFuel 0 0 = _ from hl, bS]
    rfl
  · intro m k a hk
    simp only [f_L_covers_L16, f_L_covers_J50]
    rw [b0_L, bS, e, if_neg (show ¬ nI n ≤ nI k by rw [n_le (by omega) (by omega)]; omega), bp2_L S (show j < 4 by omega), bS, dp0_L S (show k < 6 by omega), bS, cvr_over hK hj hC hk, bS, nI_1]
    by_cases h : cvr S j x z k = true
    · rw [if_pos h, if_pos h, if_neg (by decide)]
    · rw [if_neg h, if_neg h, if_pos rfl]
  · intro m a
    simp only [f_L_covers_L16]
    rw [b0_L, bS, e, if_pos (show nI n ≤ nI n by rw [n_le (by omega) (by omega)]; omega)]
    rfl
theorem l_bare {S : mT} {n : Nat} (hn : n ≤ 6) (e : S.1 38 3 = nI n) : f_L_bare (some 38) (some 39) (mk S) = some (nI (bN (opn S) n)) := by
  have hl := loopG (fun m a k => f_L_bare_L4 (some 38) (some 39) (mk S) m a (nI k)) n (fun k a => if opn S k then a ||| ((1 : Int32) <<< (nI k &&& 31)) else a) id 0 ?_ ?_ mFuel (by unfold mFuel; omega)
  · rw [it_bits _ hn] at hl
    unfold f_L_bare
    rw [show f_L_bare_L4 (some 38) (some 39) (mk S) mFuel 0 0 = _ from hl, bS]
    rfl
  · intro m k a hk
    simp only [f_L_bare_L4, f_L_bare_J26]
    rw [b0_L, bS, e, if_neg (show ¬ nI n ≤ nI k by rw [n_le (by omega) (by omega)]; omega), dp6_L S (show k < 6 by omega), bS, nI_1]
    by_cases h : S.2.1 41 k = 0
    · rw [if_pos h, if_pos (show opn S k = true by unfold opn; simp [h])]
    · rw [if_neg h, if_neg (show ¬ opn S k = true by unfold opn; simp [h])]
  · intro m a
    simp only [f_L_bare_L4]
    rw [b0_L, bS, e, if_pos (show nI n ≤ nI n by rw [n_le (by omega) (by omega)]; omega)]
    rfl
