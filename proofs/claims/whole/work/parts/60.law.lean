theorem lg_self (x : Int64) : lg_cmp x x = 0 := by
  unfold lg_cmp
  rw [if_neg (fun h => by have h' : x < x := h; rw [Int64.lt_iff_toInt_lt] at h'; omega), if_pos rfl]
theorem k_m4 : ∀ a : Fin 2049, (nI a.val - 4).toInt = (a.val : Int) - 4 := by decide +kernel
def S0 : mT := (fun o k => if o = 38 ∧ k = 25 then -1 else 0, fun _ _ => 0, fun _ => none, 0, [])
theorem Inv_0 : Inv 0 S0 := by
  refine ⟨0, 0, 0, 0, ⟨by omega, by omega, Iff.rfl, by omega, by omega, by omega, Nat.le_refl 0, rfl⟩, ⟨rfl, rfl, rfl, rfl, rfl, rfl, rfl, rfl⟩, fun i hi => absurd hi (by omega), fun j hj => absurd hj (by omega), ⟨⟨0, by omega, rfl, rfl, fun i hi => absurd hi (by omega)⟩, fun i hi => absurd hi (by omega), fun i hi => ⟨fun h => absurd h (by omega), fun _ => ⟨rfl, rfl⟩⟩, ⟨fun i hi => absurd hi (by omega), rfl⟩, fun j hj => absurd hj (by omega), rfl, rfl, ⟨rfl, 0, by omega, rfl⟩, rfl, 0, by omega, rfl⟩, Or.inr ⟨rfl, Or.inl rfl⟩⟩
theorem mS_at (X : mXs) (hL : X.1 ≤ 2048) {i : Nat} (hi : i < X.1) : mS X (nI i) = some (X.2 i) := by
  have e := ix hi (show X.1 < 2 ^ 31 by omega)
  unfold mS
  rw [e.1, if_pos ⟨hi, e.2⟩]
theorem n_3' (c : Nat) : nI c + (3 : Int32) = nI (c + 3) := n_add c 3
set_option maxRecDepth 100000 in
theorem law_loop (X : mXs) (hL : X.1 ≤ 2048) : ∀ (d k m : Nat) (S : mT), Inv k S → k + d = X.1 / 4 → d < m → ∃ (N : Nat) (T : mT), f_L_law_L18 X (some 0) (some 38) m (nI (4 * k)) (mk S) = some (.inr (mk T)) ∧ Inv N T
  | 0, k, m, S, h, hk, hm => by
    obtain ⟨q, rfl⟩ : ∃ q, m = q + 1 := ⟨m - 1, by omega⟩
    refine ⟨k, S, ?_, h⟩
    unfold f_L_law_L18
    rw [if_pos]
    rw [lt_T, show (Int32.ofNat X.1 - 4).toInt = (X.1 : Int) - 4 from k_m4 ⟨X.1, by omega⟩, nT (by omega)]
    omega
  | d + 1, k, m, S, h, hk, hm => by
    obtain ⟨q, rfl⟩ : ∃ q, m = q + 1 := ⟨m - 1, by omega⟩
    have hN : k + 1 ≤ 2000 := by omega
    have m0 : mS X (nI (4 * k)) = some (X.2 (4 * k)) := mS_at X hL (by omega)
    have m1 : mS X (nI (4 * k) + 1) = some (X.2 (4 * k + 1)) := by rw [nI_1]; exact mS_at X hL (by omega)
    have m2 : mS X (nI (4 * k) + 2) = some (X.2 (4 * k + 2)) := by rw [n_2]; exact mS_at X hL (by omega)
    have m3 : mS X (nI (4 * k) + 3) = some (X.2 (4 * k + 3)) := by rw [n_3']; exact mS_at X hL (by omega)
    have fin : ∀ T, Inv (k + 1) T → ∃ (N : Nat) (U : mT), f_L_law_L18 X (some 0) (some 38) q (nI (4 * k) + 4) (mk T) = some (.inr (mk U)) ∧ Inv N U := by
      intro T hT
      rw [show nI (4 * k) + (4 : Int32) = nI (4 * (k + 1)) from n_add (4 * k) 4]
      exact law_loop X hL d (k + 1) q T hT (by omega) (by omega)
    unfold f_L_law_L18
    rw [if_neg (show ¬ Int32.ofNat X.1 - 4 < nI (4 * k) by
      rw [lt_T, show (Int32.ofNat X.1 - 4).toInt = (X.1 : Int) - 4 from k_m4 ⟨X.1, by omega⟩, nT (by omega)]
      omega), m0, bS]
    by_cases h0 : X.2 (4 * k) &&& (31 : Int32) = 0
    · rw [if_pos h0]
      obtain ⟨r, S1, S2, g1, g2, g3⟩ := op_letter h (X.2 (4 * k + 1))
      simp only [m1, m2, m3, kk_0, kk_38, bS, g1, g2, lg_self, if_true, f_L_law_J811]
      exact fin S2 (g3.mono hN)
    rw [if_neg h0]
    by_cases h1 : X.2 (4 * k) &&& (31 : Int32) = 1
    · rw [if_pos h1]
      obtain ⟨r, S1, S2, g1, g2, g3⟩ := op_blank h
      simp only [m1, m2, m3, kk_0, kk_38, bS, g1, g2, lg_self, if_true, f_L_law_J811]
      exact fin S2 (g3.mono hN)
    rw [if_neg h1]
    by_cases h2 : X.2 (4 * k) &&& (31 : Int32) = 2
    · rw [if_pos h2]
      obtain ⟨r, S1, S2, g1, g2, g3⟩ := op_fault h
      simp only [m1, m2, m3, kk_0, kk_38, bS, g1, g2, lg_self, if_true, f_L_law_J811]
      exact fin S2 (g3.mono hN)
    rw [if_neg h2]
    by_cases h3 : X.2 (4 * k) &&& (31 : Int32) = 3
    · rw [if_pos h3]
      obtain ⟨r, S1, S2, g1, g2, g3⟩ := op_port h hN
      simp only [m1, m2, m3, kk_0, kk_38, bS, g1, g2, if_true, f_L_law_J811]
      exact fin S2 g3
    rw [if_neg h3]
    by_cases h4 : X.2 (4 * k) &&& (31 : Int32) = 4
    · rw [if_pos h4]
      obtain ⟨r, S1, g1, g2, g3⟩ := op_sleeper h (X.2 (4 * k + 1)) (X.2 (4 * k + 2))
      simp only [m1, m2, m3, kk_0, kk_38, bS, g1, g2, if_true, f_L_law_J811]
      exact fin S1 (g3.mono hN)
    rw [if_neg h4]
    by_cases h5 : X.2 (4 * k) &&& (31 : Int32) = 5
    · rw [if_pos h5]
      obtain ⟨r, g1, g2⟩ := op_tosser h (X.2 (4 * k + 1)) (X.2 (4 * k + 2))
      simp only [m1, m2, m3, kk_0, kk_38, bS, g1, g2, if_true, f_L_law_J811]
      exact fin S (h.mono hN)
    rw [if_neg h5]
    by_cases h6 : X.2 (4 * k) &&& (31 : Int32) = 6
    · rw [if_pos h6]
      obtain ⟨n, t, p, L, ⟨a1, a2, a3, a4, a5, a6, a7⟩, ⟨b1, b2, b3, b4, b5, b6, b7, b8⟩, hP, hK, hN2, hI⟩ := id h
      obtain ⟨r, g1, g2⟩ := s_as a2 b3 b4 hK (X.2 (4 * k + 1)) (X.2 (4 * k + 2))
      simp only [m1, m2, m3, kk_0, kk_38, bS, g1, g2, if_true, f_L_law_J811]
      exact fin S (h.mono hN)
    rw [if_neg h6]
    by_cases h7 : X.2 (4 * k) &&& (31 : Int32) = 7
    · rw [if_pos h7]
      obtain ⟨r, g1, g2⟩ := op_lands h (X.2 (4 * k + 1)) (X.2 (4 * k + 2))
      simp only [m1, m2, m3, kk_0, kk_38, bS, g1, g2, if_true, f_L_law_J811]
      exact fin S (h.mono hN)
    rw [if_neg h7]
    by_cases h8 : X.2 (4 * k) &&& (31 : Int32) = 8
    · rw [if_pos h8]
      obtain ⟨r, g1, g2⟩ := op_covers h (X.2 (4 * k + 1)) (X.2 (4 * k + 2))
      simp only [m1, m2, m3, kk_0, kk_38, bS, g1, g2, if_true, f_L_law_J811]
      exact fin S (h.mono hN)
    rw [if_neg h8]
    by_cases h9 : X.2 (4 * k) &&& (31 : Int32) = 9
    · rw [if_pos h9]
      obtain ⟨r, S1, S2, g1, g2, g3⟩ := op_toss h (X.2 (4 * k + 1)) (X.2 (4 * k + 2))
      simp only [m1, m2, m3, kk_0, kk_38, bS, g1, g2, lg_self, if_true, f_L_law_J811]
      exact fin S2 (g3.mono hN)
    rw [if_neg h9]
    by_cases h10 : X.2 (4 * k) &&& (31 : Int32) = 10
    · rw [if_pos h10]
      obtain ⟨r, S1, S2, g1, g2, g3⟩ := op_wind h (X.2 (4 * k + 1))
      simp only [m1, m2, m3, kk_0, kk_38, bS, g1, g2, lg_self, if_true, f_L_law_J811]
      exact fin S2 (g3.mono hN)
    rw [if_neg h10]
    by_cases h11 : X.2 (4 * k) &&& (31 : Int32) = 11
    · rw [if_pos h11]
      obtain ⟨r, S1, S2, g1, g2, g3⟩ := op_morning h
      simp only [m1, m2, m3, kk_0, kk_38, bS, g1, g2, lg_self, if_true, f_L_law_J811]
      exact fin S2 (g3.mono hN)
    rw [if_neg h11]
    by_cases h12 : X.2 (4 * k) &&& (31 : Int32) = 12
    · rw [if_pos h12]
      obtain ⟨r, S1, S2, g1, g2, g3⟩ := op_move h (X.2 (4 * k + 1)) (X.2 (4 * k + 2))
      simp only [m1, m2, m3, kk_0, kk_38, bS, g1, g2, lg_self, if_true, f_L_law_J811]
      exact fin S2 (g3.mono hN)
    rw [if_neg h12]
    by_cases h13 : X.2 (4 * k) &&& (31 : Int32) = 13
    · rw [if_pos h13]
      obtain ⟨r, S1, S2, g1, g2, g3⟩ := op_train h (X.2 (4 * k + 1)) (X.2 (4 * k + 2)) (X.2 (4 * k + 3))
      simp only [m1, m2, m3, kk_0, kk_38, bS, g1, g2, lg_self, if_true, f_L_law_J811]
      exact fin S2 (g3.mono hN)
    rw [if_neg h13]
    by_cases h14 : X.2 (4 * k) &&& (31 : Int32) = 14
    · rw [if_pos h14]
      obtain ⟨r, S1, S2, g1, g2, g3⟩ := op_stir h (X.2 (4 * k + 1))
      simp only [m1, m2, m3, kk_0, kk_38, bS, g1, g2, lg_self, if_true, f_L_law_J811]
      exact fin S2 (g3.mono hN)
    rw [if_neg h14]
    by_cases h15 : X.2 (4 * k) &&& (31 : Int32) = 15
    · rw [if_pos h15]
      obtain ⟨r, S1, S2, g1, g2, g3⟩ := op_all h (X.2 (4 * k + 1))
      simp only [m1, m2, m3, kk_0, kk_38, bS, g1, g2, lg_self, if_true, f_L_law_J811]
      exact fin S2 (g3.mono hN)
    rw [if_neg h15]
    by_cases h16 : X.2 (4 * k) &&& (31 : Int32) = 16
    · rw [if_pos h16]
      obtain ⟨r, S1, S2, g1, g2, g3⟩ := op_nights h
      simp only [m1, m2, m3, kk_0, kk_38, bS, g1, g2, lg_self, if_true, f_L_law_J811]
      exact fin S2 (g3.mono hN)
    rw [if_neg h16]
    by_cases h17 : X.2 (4 * k) &&& (31 : Int32) = 17
    · rw [if_pos h17]
      obtain ⟨r, g1, g2⟩ := op_odds h (X.2 (4 * k + 1)) (X.2 (4 * k + 2)) (X.2 (4 * k + 3))
      simp only [m1, m2, m3, kk_0, kk_38, bS, g1, g2, if_true, f_L_law_J811]
      exact fin S (h.mono hN)
    rw [if_neg h17]
    by_cases h18 : X.2 (4 * k) &&& (31 : Int32) = 18
    · rw [if_pos h18]
      obtain ⟨r, g1, g2⟩ := op_who h (X.2 (4 * k + 1))
      simp only [m1, m2, m3, kk_0, kk_38, bS, g1, g2, if_true, f_L_law_J811]
      exact fin S (h.mono hN)
    rw [if_neg h18]
    by_cases h19 : X.2 (4 * k) &&& (31 : Int32) = 19
    · rw [if_pos h19]
      obtain ⟨r, S1, S2, g1, g2, g3⟩ := op_see h (X.2 (4 * k + 1)) (X.2 (4 * k + 2)) (X.2 (4 * k + 3))
      simp only [m1, m2, m3, kk_0, kk_38, bS, g1, g2, lg_self, if_true, f_L_law_J811]
      exact fin S2 (g3.mono hN)
    rw [if_neg h19]
    by_cases h20 : X.2 (4 * k) &&& (31 : Int32) = 20
    · rw [if_pos h20]
      obtain ⟨r, S1, S2, g1, g2, g3⟩ := op_forget h
      simp only [m1, m2, m3, kk_0, kk_38, bS, g1, g2, lg_self, if_true, f_L_law_J811]
      exact fin S2 (g3.mono hN)
    rw [if_neg h20]
    by_cases h21 : X.2 (4 * k) &&& (31 : Int32) = 21
    · rw [if_pos h21]
      obtain ⟨r, S1, g1, g2, g3⟩ := op_seasons h (X.2 (4 * k + 1)) (X.2 (4 * k + 2)) (X.2 (4 * k + 3))
      simp only [m1, m2, m3, kk_0, kk_38, bS, g1, g2, if_true, f_L_law_J811]
      exact fin S1 (g3.mono hN)
    rw [if_neg h21]
    by_cases h22 : X.2 (4 * k) &&& (31 : Int32) = 22
    · rw [if_pos h22]
      obtain ⟨r, S1, S2, g1, g2, g3⟩ := op_image h
      simp only [m1, m2, m3, kk_0, kk_38, bS, g1, g2, lg_self, if_true, f_L_law_J811]
      exact fin S2 (g3.mono hN)
    rw [if_neg h22]
    by_cases h23 : X.2 (4 * k) &&& (31 : Int32) = 23
    · rw [if_pos h23]
      obtain ⟨r, S1, S2, g1, g2, g3⟩ := op_restore h
      simp only [m1, m2, m3, kk_0, kk_38, bS, g1, g2, lg_self, if_true, f_L_law_J811]
      exact fin S2 (g3.mono hN)
    rw [if_neg h23]
    by_cases h24 : X.2 (4 * k) &&& (31 : Int32) = 24
    · rw [if_pos h24]
      obtain ⟨r, g1, g2⟩ := op_count h (X.2 (4 * k + 1))
      simp only [m1, m2, m3, kk_0, kk_38, bS, g1, g2, if_true, f_L_law_J811]
      exact fin S (h.mono hN)
    rw [if_neg h24]
    by_cases h25 : X.2 (4 * k) &&& (31 : Int32) = 25
    · rw [if_pos h25]
      obtain ⟨r, S1, S2, g1, g2, g3⟩ := op_digest h
      simp only [m1, m2, m3, kk_0, kk_38, bS, g1, g2, lg_self, if_true, f_L_law_J811]
      exact fin S2 (g3.mono hN)
    rw [if_neg h25]
    simp only [f_L_law_J811]
    exact fin S (h.mono hN)
