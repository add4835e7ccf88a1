-- seasons by a seed
/-- a night's toss -/
def cw (S : mT) (n t s : Nat) : Nat := bN (cvr S (nx (nx s) / 65536 % t) (nI (nx (nx (nx s)) / 65536 % 36)) (nI (nx s / 65536 % 3) - 1)) n
def sst (S : mT) (n t : Nat) : Nat → Nat × Int32 × Nat → Nat × Int32 × Nat := fun _ p => (nx (nx (nx p.1)), p.2.1 + nI (pop (cw S n t p.1)), p.2.2 ||| cw S n t p.1)
theorem c_seasL {S : mT} {n t m q k0 s0 : Nat} (h : Inv n t m q S) (hk1 : k0 ≤ 60) (hs1 : s0 < 2 ^ 31) (z : Int32) : f_X10_seasons_L49 0 (nI k0) z (mk S) mFuel (nI s0) 0 0 0 = some (nI (it (sst S n t) k0 (s0, 0, 0)).1, (it (sst S n t) k0 (s0, 0, 0)).2.1, nI (it (sst S n t) k0 (s0, 0, 0)).2.2) ∧ (it (sst S n t) k0 (s0, 0, 0)).1 < 2 ^ 31 ∧ (it (sst S n t) k0 (s0, 0, 0)).2.2 < 64 := by
  obtain ⟨⟨⟨a1, a2⟩, ⟨a3, a4⟩, a5, a6⟩, ⟨b1, b2, b3, b4⟩, hK, hC, hM, hV, hT, hH, hN⟩ := h
  have ht : 0 < t := by omega
  refine loopF (fun m (p : Nat × Int32 × Nat) k => f_X10_seasons_L49 0 (nI k0) z (mk S) m (nI p.1) p.2.1 (nI p.2.2) (nI k)) k0 (sst S n t) (fun p => (nI p.1, p.2.1, nI p.2.2)) (fun _ p => p.1 < 2 ^ 31 ∧ p.2.2 < 64) (s0, 0, 0) ⟨hs1, show 0 < 64 by decide⟩ ?_ ?_ mFuel (by unfold mFuel; omega)
  · intro m k p hk hp
    have q1 := nx_lt p.1
    have q2 := nx_lt (nx p.1)
    have q3 := nx_lt (nx (nx p.1))
    have hj : nx (nx p.1) / 65536 % t < t := Nat.mod_lt _ ht
    refine ⟨?_, q3, or64 hp.2 (bN_lt64 a2)⟩
    simp only [f_X10_seasons_L49]
    rw [if_neg (show ¬ nI k0 ≤ nI k by rw [n_le (by omega) (by omega)]; omega), s_nxC hp.1, bS, show (3 : Int32) = nI 3 from rfl, s_drC q1 (by decide) (by decide), bS, s_nxC q1, bS, rI_0_8, bS, b3, s_drC q2 ht (by omega), bS, s_nxC q2, bS, show (36 : Int32) = nI 36 from rfl, s_drC q3 (by decide) (by decide), bS, kk_0, bS, s_crw a2 a4 b1 b3 hK hj hC hT, bS, s_bc (bN_lt64 a2), bS, nI_1, n_or2]
    rfl
  · intro m p hp
    simp only [f_X10_seasons_L49]
    rw [if_pos (show nI k0 ≤ nI k0 by rw [n_le (by omega) (by omega)]; omega)]
theorem l_dr {s m : Nat} (hs : s < 2 ^ 31) (hm : 0 < m) (hm2 : m < 2 ^ 31) : (((Int64.ofNat s) / (65536 : Int64)) - ((Int64.ofNat s) / (65536 : Int64)) / (Int64.ofNat m) * (Int64.ofNat m)).toInt32 = nI (s / 65536 % m) := by
  have e1 : s / 65536 / m * m ≤ s / 65536 := Nat.div_mul_le_self _ _
  rw [show (65536 : Int64) = Int64.ofNat 65536 from rfl, ← Int64.ofNat_div (by omega) (by decide), ← Int64.ofNat_div (by omega) (by omega), ← Int64.ofNat_mul, ← Int64.ofNat_sub _ _ e1, Int64.toInt32_ofNat']
  refine congrArg nI ?_
  have := Nat.div_add_mod (s / 65536) m
  have h2 : m * (s / 65536 / m) = s / 65536 / m * m := Nat.mul_comm _ _
  omega
theorem l_seasL {S : mT} {n t m q k0 s0 : Nat} (h : Inv n t m q S) (hk1 : k0 ≤ 60) (hs1 : s0 < 2 ^ 31) (o : Option Nat) (v4 : Int32) : f_L_seasons_L14 o (some 38) (some 39) (nI k0) v4 (mk S) mFuel (Int64.ofNat s0) 0 0 0 = some (Int64.ofNat (it (sst S n t) k0 (s0, 0, 0)).1, (it (sst S n t) k0 (s0, 0, 0)).2.1, nI (it (sst S n t) k0 (s0, 0, 0)).2.2) := by
  obtain ⟨⟨⟨a1, a2⟩, ⟨a3, a4⟩, a5, a6⟩, ⟨b1, b2, b3, b4⟩, hK, hC, hM, hV, hT, hH, hN⟩ := h
  have ht : 0 < t := by omega
  refine (loopF (fun m (p : Nat × Int32 × Nat) k => f_L_seasons_L14 o (some 38) (some 39) (nI k0) v4 (mk S) m (Int64.ofNat p.1) p.2.1 (nI p.2.2) (nI k)) k0 (sst S n t) (fun p => (Int64.ofNat p.1, p.2.1, nI p.2.2)) (fun _ p => p.1 < 2 ^ 31 ∧ p.2.2 < 64) (s0, 0, 0) ⟨hs1, show 0 < 64 by decide⟩ ?_ ?_ mFuel (by unfold mFuel; omega)).1
  · intro m k p hk hp
    have q1 := nx_lt p.1
    have q2 := nx_lt (nx p.1)
    have q3 := nx_lt (nx (nx p.1))
    have hj : nx (nx p.1) / 65536 % t < t := Nat.mod_lt _ ht
    refine ⟨?_, q3, or64 hp.2 (bN_lt64 a2)⟩
    simp only [f_L_seasons_L14]
    rw [if_neg (show ¬ nI k0 ≤ nI k by rw [n_le (by omega) (by omega)]; omega)]
    refine bnd (l_after hp.1 _) ?_
    refine bnd (l_after q1 _) ?_
    refine bnd (b1_L _) ?_
    rw [b4, n_64 (by omega), if_neg (show ¬ Int64.ofNat t = 0 by
      intro z
      have := congrArg Int64.toInt z
      rw [Int64.toInt_ofNat_of_lt (by omega)] at this
      have h0 : (0 : Int64).toInt = 0 := rfl
      omega)]
    refine bnd (l_after q2 _) ?_
    rw [l_dr q2 ht (by omega), show (36 : Int64) = Int64.ofNat 36 from rfl, l_dr q3 (by decide) (by decide), show (3 : Int64) = Int64.ofNat 3 from rfl, l_dr q1 (by decide) (by decide)]
    refine bnd (l_covers a2 a4 b2 hK hj hC _ _) ?_
    refine bnd (l_size (bN_lt64 a2) _) ?_
    rw [nI_1, n_or2]
    rfl
  · intro m p hp
    simp only [f_L_seasons_L14]
    rw [if_pos (show nI k0 ≤ nI k0 by rw [n_le (by omega) (by omega)]; omega)]
theorem lg_self (x : Int64) : lg_cmp x x = 0 := by
  unfold lg_cmp
  rw [if_neg (fun h => by have h' : x < x := h; rw [Int64.lt_iff_toInt_lt] at h'; omega), if_pos rfl]
theorem op_seasons {S : mT} {n t m q k0 s0 : Nat} (h : Inv n t m q S) (hk0 : 1 ≤ k0) (hk1 : k0 ≤ 60) (hs1 : s0 < 2 ^ 31) : f_L_seasons (some 0) (some 38) (some 39) (nI k0) (nI s0) (mk S) = some 1 := by
  have hC := fun z => (c_seasL h hk1 hs1 z).1
  obtain ⟨_, c2, c3⟩ := c_seasL h hk1 hs1 0
  have hL := l_seasL h hk1 hs1 (some 0) (nI s0)
  generalize it (sst S n t) k0 (s0, 0, 0) = p at hC c2 c3 hL
  obtain ⟨⟨⟨a1, a2⟩, ⟨a3, a4⟩, a5, a6⟩, ⟨b1, b2, b3, b4⟩, _⟩ := h
  have hk : (nI k0).toInt = k0 := nT (by omega)
  have hs : (nI s0).toInt = s0 := nT hs1
  have call : ∀ z r : Int32, 0 ≤ z.toInt ∧ z.toInt ≤ 2 → (if z = (2 : Int32) then some (nI p.1) else if z = 0 then some p.2.1 else Option.bind (f_J6_bitCount_0f7a4 (nI p.2.2) (mk S)) fun r14 => some r14) = some r → f_X10_seasons 0 (nI k0) (nI s0) z (mk S) = some r := by
    intro z r hz hr
    rw [← hr]
    unfold f_X10_seasons f_X10_seasons_J24 f_X10_seasons_J159
    rw [if_neg (show ¬ nI k0 < 1 by rw [lt_T]; show ¬ (nI k0).toInt < 1; omega), if_neg (show ¬ (60 : Int32) < nI k0 by rw [lt_T]; show ¬ 60 < (nI k0).toInt; omega), if_neg (show ¬ nI s0 < 0 by rw [lt_T]; show ¬ (nI s0).toInt < 0; omega), if_neg (show ¬ z < 0 by rw [lt_T]; show ¬ z.toInt < 0; omega), if_pos (show z ≤ 2 by rw [le_T]; show z.toInt ≤ 2; omega)]
    refine bnd (kk_0 _) ?_
    refine bnd (s_hasPort a2 b1) ?_
    rw [if_neg (ne0 a1), if_neg (by decide)]
    refine bnd (hC z) ?_
    rfl
  unfold f_L_seasons f_L_seasons_J164
  rw [n_64 hs1]
  refine bnd hL ?_
  refine bnd (kk_0 _) ?_
  refine bnd (call 0 p.2.1 (by decide) ?_) ?_
  · rw [if_neg (by decide), if_pos rfl]
  refine (if_pos rfl).trans ?_
  refine bnd (kk_0 _) ?_
  refine bnd (call 1 (nI (pop p.2.2)) (by decide) ?_) ?_
  · rw [if_neg (by decide), if_neg (by decide), s_bc c3, bS]
  refine bnd (l_size c3 _) ?_
  refine (if_pos rfl).trans ?_
  refine bnd (kk_0 _) ?_
  refine bnd (call 2 (nI p.1) (by decide) ?_) ?_
  · rw [if_pos rfl]
  refine (if_pos (show lg_cmp (nI p.1).toInt64 (Int64.ofNat p.1) = 0 by rw [n_64 c2]; exact lg_self _)).trans ?_
  exact if_pos (Or.inr rfl)
