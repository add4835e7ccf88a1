-- what each tosser is called as
theorem l_L90 {S : mT} {n t m q j : Nat} (X : mXs) (h : Inv n t m q S) (hj : j < t) : f_L_law_L90 X (some 0) (some 38) (some 39) (nI j) (mk S) mFuel 0 = some (.inr ()) := by
  obtain ⟨⟨⟨a1, a2⟩, ⟨a3, a4⟩, a5, a6⟩, ⟨b1, b2, b3, b4⟩, hK, hC, hM, hV, hT, hH, hN⟩ := h
  obtain ⟨kd, e0, k1, k2, k3, k4⟩ := hK j hj
  have h4 : j < 4 := by omega
  refine loopK (fun f v => f_L_law_L90 X (some 0) (some 38) (some 39) (nI j) (mk S) f (nI v)) 5 (.inr ()) ?_ (fun f => ?he) mFuel (by unfold mFuel; omega)
  case he =>
    simp only [f_L_law_L90]
    rw [if_pos (by decide)]
  · intro f v hv
    have hc := c_as (S := S) a4 b3 hK hj (show v ≤ 4 by omega) k2 k1
    simp only [f_L_law_L90, f_L_law_J136, f_L_law_J141, f_L_law_J142]
    rw [if_neg (show ¬ (5 : Int32) ≤ nI v by rw [show (5 : Int32) = nI 5 from rfl, n_le (by omega) (by omega)]; omega), nI_1]
    refine bnd (kk_0 _) ?_
    refine bnd hc ?_
    by_cases z0 : v = 0
    · rw [if_pos (show nI v = 0 by rw [z0]; rfl), if_pos (Or.inl z0), if_pos rfl]
    · rw [if_neg (show ¬ nI v = 0 by rw [show (0 : Int32) = nI 0 from rfl, n_eq (by omega) (by omega)]; exact z0)]
      refine bnd (bp2_L _ h4) ?_
      rw [k2]
      by_cases z1 : v = kd
      · rw [if_pos (congrArg nI z1), if_pos (Or.inr (Or.inl z1)), if_pos rfl]
      · rw [if_neg (show ¬ nI v = nI kd by rw [n_eq (by omega) (by omega)]; exact z1)]
        by_cases z2 : v = 2
        · rw [if_pos (show nI v = (2 : Int32) by rw [z2]; rfl)]
          refine bnd (bp2_L _ h4) ?_
          rw [k2]
          by_cases z4 : kd = 4
          · rw [if_pos (show nI kd = (4 : Int32) by rw [z4]; rfl), if_pos (Or.inr (Or.inr ⟨z2, z4⟩)), if_pos rfl]
          · rw [if_neg (show ¬ nI kd = (4 : Int32) by rw [show (4 : Int32) = nI 4 from rfl, n_eq (by omega) (by omega)]; exact z4), if_neg (show ¬ (v = 0 ∨ v = kd ∨ (v = 2 ∧ kd = 4)) by omega), if_pos rfl]
        · rw [if_neg (show ¬ nI v = (2 : Int32) by rw [show (2 : Int32) = nI 2 from rfl, n_eq (by omega) (by omega)]; exact z2), if_neg (show ¬ (v = 0 ∨ v = kd ∨ (v = 2 ∧ kd = 4)) by omega), if_pos rfl]
theorem l_L79 {S : mT} {n t m q : Nat} (X : mXs) (h : Inv n t m q S) : f_L_law_L79 X (some 0) (some 38) (some 39) (mk S) mFuel 0 = some (.inr ()) := by
  obtain ⟨⟨⟨a1, a2⟩, ⟨a3, a4⟩, a5, a6⟩, ⟨b1, b2, b3, b4⟩, _⟩ := id h
  refine loopK (fun f k => f_L_law_L79 X (some 0) (some 38) (some 39) (mk S) f (nI k)) t (.inr ()) ?_ (fun f => ?he) mFuel (by unfold mFuel; omega)
  case he =>
    simp only [f_L_law_L79]
    refine bnd (b1_L _) ?_
    rw [b4, if_pos (show nI t ≤ nI t by rw [n_le (by omega) (by omega)]; omega)]
  · intro f k hk
    simp only [f_L_law_L79]
    refine bnd (b1_L _) ?_
    rw [b4, if_neg (show ¬ nI t ≤ nI k by rw [n_le (by omega) (by omega)]; omega)]
    refine bnd (l_L90 X h hk) ?_
    rw [nI_1]
-- what is refused
section REF
variable {S : mT} {n t m q : Nat}
theorem x_sl (h : Inv n t m q S) {x : Int32} (hx : ¬ (0 ≤ x.toInt ∧ x.toInt < n)) (v : Int32) : f_X10_sleeper 0 x v (mk S) = some (-101, mk S) := by
  obtain ⟨⟨⟨a1, a2⟩, _⟩, ⟨b1, _⟩, _⟩ := h
  unfold f_X10_sleeper
  refine bnd (kk_0 _) ?_
  refine bnd (s_isSlC a2 b1 _) ?_
  rw [if_neg hx, if_pos rfl]
theorem x_sl5 (h : Inv n t m q S) : f_X10_sleeper 0 0 5 (mk S) = some (-102, mk S) := by
  obtain ⟨⟨⟨a1, a2⟩, _⟩, ⟨b1, _⟩, _⟩ := h
  unfold f_X10_sleeper
  refine bnd (kk_0 _) ?_
  refine bnd (s_isSlC a2 b1 _) ?_
  rw [if_pos (show 0 ≤ (0 : Int32).toInt ∧ (0 : Int32).toInt < n by rw [i0]; omega), if_neg (by decide), if_neg (by decide), if_neg (by decide), if_neg (by decide), if_neg (by decide), if_neg (by decide)]
theorem x_to (h : Inv n t m q S) {x : Int32} (hx : ¬ (0 ≤ x.toInt ∧ x.toInt < t)) (v : Int32) : f_X10_tosser 0 x v (mk S) = some (-101) := by
  obtain ⟨⟨_, ⟨a3, a4⟩, _⟩, ⟨_, _, b3, _⟩, _⟩ := h
  unfold f_X10_tosser
  refine bnd (kk_0 _) ?_
  refine bnd (s_taN a4 b3 hx) ?_
  rfl
theorem x_to9 (h : Inv n t m q S) : f_X10_tosser 0 0 9 (mk S) = some (-102) := by
  obtain ⟨⟨_, ⟨a3, a4⟩, _⟩, ⟨_, _, b3, _⟩, hK, _⟩ := h
  obtain ⟨kd, e0, k1, k2, k3, k4⟩ := hK 0 (by omega)
  unfold f_X10_tosser
  refine bnd (kk_0 _) ?_
  refine bnd (s_taS a4 b3 (j := 0) (by omega)) ?_
  rw [k3, oC_s, if_neg (by decide), if_neg (by decide), if_neg (by decide), if_neg (by decide), if_neg (by decide), if_neg (by decide), if_neg (by decide), if_neg (by decide), if_neg (by decide)]
theorem x_as (h : Inv n t m q S) {x : Int32} (hx : ¬ (0 ≤ x.toInt ∧ x.toInt < t)) (v : Int32) : f_X10_as 0 x v (mk S) = some (-101) := by
  obtain ⟨⟨_, ⟨a3, a4⟩, _⟩, ⟨_, _, b3, _⟩, _⟩ := h
  unfold f_X10_as
  refine bnd (kk_0 _) ?_
  refine bnd (s_taN a4 b3 hx) ?_
  rfl
theorem x_as5 (h : Inv n t m q S) : f_X10_as 0 0 5 (mk S) = some (-102) := by
  obtain ⟨⟨_, ⟨a3, a4⟩, _⟩, ⟨_, _, b3, _⟩, hK, _⟩ := h
  obtain ⟨kd, e0, k1, k2, k3, k4⟩ := hK 0 (by omega)
  unfold f_X10_as f_X10_as_J22
  refine bnd (kk_0 _) ?_
  refine bnd (s_taS a4 b3 (j := 0) (by omega)) ?_
  rw [k3, oC_s, if_neg (by decide), if_neg (by decide)]
theorem x_isT (h : Inv n t m q S) {x y : Int32} (hx : ¬ ((0 ≤ x.toInt ∧ x.toInt < t) ∧ 0 ≤ y.toInt ∧ y.toInt ≤ 35)) : f_X10_isToss 0 x y (mk S) = some 0 := by
  obtain ⟨⟨⟨a1, a2⟩, ⟨a3, a4⟩, _⟩, ⟨b1, _, b3, _⟩, hK, _⟩ := h
  rw [s_isTossC a2 a4 (show n = 0 ↔ t = 0 by omega) b1 b3 hK, if_neg hx]
theorem x_lands (h : Inv n t m q S) {x y : Int32} (hx : ¬ ((0 ≤ x.toInt ∧ x.toInt < t) ∧ 0 ≤ y.toInt ∧ y.toInt ≤ 35)) : f_X10_lands 0 x y (mk S) = some (-101) := by
  unfold f_X10_lands
  refine bnd (kk_0 _) ?_
  refine bnd (x_isT h hx) ?_
  exact if_pos rfl
theorem x_covers (h : Inv n t m q S) {x y : Int32} (hx : ¬ ((0 ≤ x.toInt ∧ x.toInt < t) ∧ 0 ≤ y.toInt ∧ y.toInt ≤ 35)) : f_X10_covers 0 x y (mk S) = some (-101) := by
  unfold f_X10_covers
  refine bnd (kk_0 _) ?_
  refine bnd (x_isT h hx) ?_
  exact if_pos rfl
theorem x_toss (h : Inv n t m q S) {x : Int32} (hx : ¬ (0 ≤ x.toInt ∧ x.toInt < t)) (y : Int32) : f_X10_toss 0 x y (mk S) = some (-101, mk S) := by
  obtain ⟨⟨_, ⟨a3, a4⟩, _⟩, ⟨_, _, b3, _⟩, _⟩ := h
  unfold f_X10_toss f_X10_toss_J18
  refine bnd (kk_0 _) ?_
  refine bnd (s_taN a4 b3 hx) ?_
  rfl
theorem x_toss36 (h : Inv n t m q S) : f_X10_toss 0 0 36 (mk S) = some (-101, mk S) := by
  obtain ⟨⟨⟨a1, a2⟩, ⟨a3, a4⟩, _⟩, ⟨b1, _, b3, _⟩, hK, _⟩ := h
  obtain ⟨kd, e0, k1, k2, k3, k4⟩ := hK 0 (by omega)
  unfold f_X10_toss f_X10_toss_J18
  refine bnd (kk_0 _) ?_
  refine bnd (s_taS a4 b3 (j := 0) (by omega)) ?_
  rw [k3, oC_s]
  refine bnd (kk_0 _) ?_
  refine bnd (s_isCellC a2 b1 _) ?_
  rw [if_neg (show ¬ (n ≠ 0 ∧ 0 ≤ (36 : Int32).toInt ∧ (36 : Int32).toInt ≤ 35) by rw [show (36 : Int32).toInt = 36 from rfl]; omega), if_pos rfl]
theorem x_wind2 : f_X10_wind 0 2 (mk S) = some (-102, mk S) := by
  unfold f_X10_wind f_X10_wind_J10
  rw [if_neg (by decide), if_neg (by decide)]
theorem x_windm : f_X10_wind 0 (-2) (mk S) = some (-102, mk S) := by
  unfold f_X10_wind f_X10_wind_J10
  rw [if_pos (by decide)]
theorem x_move (h : Inv n t m q S) {x : Int32} (hx : ¬ (0 ≤ x.toInt ∧ x.toInt < n)) (y : Int32) : f_X10_move 0 x y (mk S) = some (-101, mk S) := by
  obtain ⟨⟨⟨a1, a2⟩, _⟩, ⟨b1, _⟩, _⟩ := h
  unfold f_X10_move f_X10_move_J16
  refine bnd (kk_0 _) ?_
  refine bnd (s_isSlC a2 b1 _) ?_
  rw [if_neg hx, if_pos rfl]
theorem x_move36 (h : Inv n t m q S) : f_X10_move 0 0 36 (mk S) = some (-101, mk S) := by
  obtain ⟨⟨⟨a1, a2⟩, _⟩, ⟨b1, _⟩, _⟩ := h
  unfold f_X10_move f_X10_move_J16
  refine bnd (kk_0 _) ?_
  refine bnd (s_isSlC a2 b1 _) ?_
  rw [if_pos (show 0 ≤ (0 : Int32).toInt ∧ (0 : Int32).toInt < n by rw [i0]; omega), if_neg (by decide)]
  refine bnd (kk_0 _) ?_
  refine bnd (s_isCellC a2 b1 _) ?_
  rw [if_neg (show ¬ (n ≠ 0 ∧ 0 ≤ (36 : Int32).toInt ∧ (36 : Int32).toInt ≤ 35) by rw [show (36 : Int32).toInt = 36 from rfl]; omega), if_pos rfl]
theorem x_train (h : Inv n t m q S) {x : Int32} (hx : ¬ (0 ≤ x.toInt ∧ x.toInt < t)) (y z : Int32) : f_X10_train 0 x y z (mk S) = some (-101, mk S) := by
  obtain ⟨⟨_, ⟨a3, a4⟩, _⟩, ⟨_, _, b3, _⟩, _⟩ := h
  unfold f_X10_train
  refine bnd (kk_0 _) ?_
  refine bnd (s_taN a4 b3 hx) ?_
  rfl
theorem x_train5 (h : Inv n t m q S) : f_X10_train 0 0 5 0 (mk S) = some (-102, mk S) := by
  obtain ⟨⟨_, ⟨a3, a4⟩, _⟩, ⟨_, _, b3, _⟩, hK, _⟩ := h
  obtain ⟨kd, e0, k1, k2, k3, k4⟩ := hK 0 (by omega)
  unfold f_X10_train f_X10_train_J25
  refine bnd (kk_0 _) ?_
  refine bnd (s_taS a4 b3 (j := 0) (by omega)) ?_
  rw [k3, oC_s]
  refine bnd ((s_isTurn _ _).trans (congrArg some (if_neg (by decide)))) ?_
  exact if_pos rfl
theorem x_trainm (h : Inv n t m q S) : f_X10_train 0 0 0 (-1) (mk S) = some (-102, mk S) := by
  obtain ⟨⟨_, ⟨a3, a4⟩, _⟩, ⟨_, _, b3, _⟩, hK, _⟩ := h
  obtain ⟨kd, e0, k1, k2, k3, k4⟩ := hK 0 (by omega)
  unfold f_X10_train f_X10_train_J25
  refine bnd (kk_0 _) ?_
  refine bnd (s_taS a4 b3 (j := 0) (by omega)) ?_
  rw [k3, oC_s]
  refine bnd ((s_isTurn _ _).trans (congrArg some (if_pos (by decide)))) ?_
  rw [if_neg (by decide)]
  refine bnd ((s_isTurn _ _).trans (congrArg some (if_neg (by decide)))) ?_
  exact if_pos rfl
theorem x_stir0 : f_X10_stir 0 0 (mk S) = some (-102, mk S) := by
  unfold f_X10_stir f_X10_stir_J11
  rw [if_pos (by decide)]
theorem x_stir61 : f_X10_stir 0 61 (mk S) = some (-102, mk S) := by
  unfold f_X10_stir f_X10_stir_J11
  rw [if_neg (by decide), if_neg (by decide)]
theorem x_odds (h : Inv n t m q S) {x : Int32} (hx : ¬ (0 ≤ x.toInt ∧ x.toInt < n)) (y z : Int32) : f_X10_odds 0 x y z (mk S) = some (-101) := by
  obtain ⟨⟨⟨a1, a2⟩, _⟩, ⟨b1, _⟩, _⟩ := h
  unfold f_X10_odds f_X10_odds_J17
  refine bnd (kk_0 _) ?_
  refine bnd (s_isSlC a2 b1 _) ?_
  rw [if_neg hx, if_pos rfl]
theorem x_oddsT (h : Inv n t m q S) {x y : Int32} (hx : ¬ ((0 ≤ x.toInt ∧ x.toInt < t) ∧ 0 ≤ y.toInt ∧ y.toInt ≤ 35)) : f_X10_odds 0 0 x y (mk S) = some (-101) := by
  have hT := x_isT h hx
  obtain ⟨⟨⟨a1, a2⟩, _⟩, ⟨b1, _⟩, _⟩ := h
  unfold f_X10_odds f_X10_odds_J17
  refine bnd (kk_0 _) ?_
  refine bnd (s_isSlC a2 b1 _) ?_
  rw [if_pos (show 0 ≤ (0 : Int32).toInt ∧ (0 : Int32).toInt < n by rw [i0]; omega), if_neg (by decide)]
  refine bnd (kk_0 _) ?_
  refine bnd hT ?_
  exact if_pos rfl
theorem x_who (h : Inv n t m q S) {x : Int32} (hx : ¬ (0 ≤ x.toInt ∧ x.toInt ≤ 35)) : f_X10_who 0 x (mk S) = some (-101) := by
  obtain ⟨⟨⟨a1, a2⟩, _⟩, ⟨b1, _⟩, _⟩ := h
  unfold f_X10_who
  refine bnd (kk_0 _) ?_
  refine bnd ((s_isCellC a2 b1 _).trans (congrArg some (if_neg (fun z => hx z.2)))) ?_
  exact if_pos rfl
theorem x_seas1 : f_X10_seasons 0 0 0 0 (mk S) = some (-102) := by
  unfold f_X10_seasons f_X10_seasons_J24
  rw [if_pos (by decide)]
theorem x_seas2 : f_X10_seasons 0 61 0 0 (mk S) = some (-102) := by
  unfold f_X10_seasons f_X10_seasons_J24
  rw [if_neg (by decide), if_pos (by decide)]
theorem x_seas3 : f_X10_seasons 0 1 (-1) 0 (mk S) = some (-102) := by
  unfold f_X10_seasons f_X10_seasons_J24
  rw [if_neg (by decide), if_neg (by decide), if_pos (by decide)]
theorem x_seas4 : f_X10_seasons 0 1 0 3 (mk S) = some (-102) := by
  unfold f_X10_seasons f_X10_seasons_J24
  rw [if_neg (by decide), if_neg (by decide), if_neg (by decide), if_neg (by decide), if_neg (by decide)]
end REF
-- thirty steps
theorem mask_ok (x : Int32) : ∃ s : Nat, s < 2 ^ 31 ∧ x &&& (2147483647 : Int32) = nI s := by
  refine ⟨x.toBitVec.toNat &&& 2147483647, Nat.lt_of_le_of_lt Nat.and_le_right (by decide), ?_⟩
  apply Int32.toBitVec_inj.mp
  apply BitVec.eq_of_toNat_eq
  show (x.toBitVec &&& 2147483647#32).toNat = (BitVec.ofNat 32 (x.toBitVec.toNat &&& 2147483647)).toNat
  rw [BitVec.toNat_and, BitVec.toNat_ofNat]
  exact (Nat.mod_eq_of_lt (Nat.lt_of_le_of_lt Nat.and_le_right (by decide))).symm
theorem law_loop (X : mXs) (hL : X.1 ≤ 260) {n t : Nat} : ∀ (d k m : Nat) (S : mT), Inv n t k (k + 1) S → k + d = 30 → d < m → ∃ T : mT, f_L_law_L162 X (some 0) (some 38) (some 39) m (nI k) (mk S) = some (.inr (mk T)) ∧ Inv n t 30 31 T
  | 0, k, m, S, h, hk, hm => by
    obtain ⟨q, rfl⟩ : ∃ q, m = q + 1 := ⟨m - 1, by omega⟩
    have hk0 : k = 30 := by omega
    subst hk0
    refine ⟨S, ?_, h⟩
    simp only [f_L_law_L162]
    rw [if_pos (by decide)]
  | d + 1, k, m, S, h, hk, hm => by
    obtain ⟨q, rfl⟩ : ∃ q, m = q + 1 := ⟨m - 1, by omega⟩
    obtain ⟨S1, d1, d2⟩ := op_does h (show k < 30 by omega) (cellN X (11 + k))
    obtain ⟨S2, e1, e2⟩ := op_stands d2
    obtain ⟨T, t1, t2⟩ := law_loop X hL d (k + 1) q S2 e2 (by omega) (by omega)
    obtain ⟨⟨⟨a1, a2⟩, ⟨a3, a4⟩, a5, a6⟩, ⟨b1, b2, b3, b4⟩, _⟩ := id e2
    refine ⟨T, ?_, t2⟩
    have go : ∀ y : Int32, f_L_law_J239 X (f_L_law_L162 X (some 0) (some 38) (some 39) q) (some 0) (some 38) (some 39) (nI k) y (mk S2) = some (.inr (mk T)) := by
      intro y
      unfold f_L_law_J239 f_L_law_J284
      rw [show (8 : Int32) = nI 8 from rfl, n_rem (by omega) (by decide), nI_1]
      by_cases z : nI (k % 8) = 0
      · rw [if_pos z]
        refine bnd (l_at _ (m := 60) (by decide) (by decide) _) ?_
        rw [n_div (by omega) (by decide), show (41 : Int32) + nI (k / 8) = nI (41 + k / 8) from n_add0 41 _]
        refine bnd (l_cell X hL (by omega) _) ?_
        obtain ⟨s, s1, s2⟩ := mask_ok (cellN X (41 + k / 8))
        have hlt := atN_lt (y >>> ((3 : Int32) &&& 31)) (m := 60) (by decide)
        rw [s2, show (1 : Int32) + nI (atN (y >>> ((3 : Int32) &&& 31)) 60) = nI (1 + atN (y >>> ((3 : Int32) &&& 31)) 60) from n_add0 1 _]
        refine bnd (op_seasons e2 (by omega) (by omega) s1) ?_
        rw [if_neg (by decide)]
        exact t1
      · rw [if_neg z]
        exact t1
    simp only [f_L_law_L162]
    rw [if_neg (show ¬ (30 : Int32) ≤ nI k by rw [show (30 : Int32) = nI 30 from rfl, n_le (by omega) (by omega)]; omega), show (11 : Int32) + nI k = nI (11 + k) from n_add0 11 _]
    refine bnd (l_cell X hL (by omega) _) ?_
    refine bnd d1 ?_
    rw [if_neg (show ¬ (1 : Int32) = 0 by decide)]
    refine bnd e1 ?_
    rw [if_neg (show ¬ (1 : Int32) = 0 by decide), show (3 : Int32) = nI 3 from rfl, n_rem (by omega) (by decide)]
    by_cases z : nI (k % 3) = 0
    · rw [if_pos z]
      refine bnd (b1_L _) ?_
      rw [b4]
      refine bnd (l_at _ (m := t) (by omega) (by omega) _) ?_
      refine bnd (l_at _ (m := 36) (by decide) (by decide) _) ?_
      refine bnd (op_lies e2 (atN_lt _ (by omega)) (atN_lt _ (by decide))) ?_
      rw [if_neg (by decide)]
      exact go _
    · rw [if_neg z]
      exact go _
