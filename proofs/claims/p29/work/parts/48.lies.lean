-- where a toss lands, whom it covers, by how many winds, who can have thrown it
theorem n_36 (a k : Nat) (ha : a < 36) (hk : k < 6) : (nI a + ((7 : Int32) * nI k)) - (nI a + ((7 : Int32) * nI k)) / (36 : Int32) * (36 : Int32) = nI ((a + 7 * k) % 36) := by
  rw [show (7 : Int32) = nI 7 from rfl, n_mul, n_add, show (36 : Int32) = nI 36 from rfl, n_rem (by omega) (by decide)]
theorem l_odds {S : mT} {n t j i : Nat} (hn : n ≤ 6) (ht : t ≤ 4) (e : S.1 38 3 = nI n) (hK : KR S t) (hj : j < t) (hC : NCells S n 9 rNow) (hi : i < n) (o : Option Nat) (x v4 v5 : Int32) : f_L_lies_L85 o (some 38) (some 39) (nI j) v4 v5 x (nI i) (mk S) mFuel 0 (-1) = some (0 + (if cvr S j x (-1) i = true then 1 else 0) + (if cvr S j x (-1 + 1) i = true then 1 else 0) + (if cvr S j x (-1 + 1 + 1) i = true then 1 else 0)) := by
  have step : ∀ (m : Nat) (a z : Int32), ¬ (2 : Int32) ≤ z → f_L_lies_L85 o (some 38) (some 39) (nI j) v4 v5 x (nI i) (mk S) (m + 1) a z = f_L_lies_L85 o (some 38) (some 39) (nI j) v4 v5 x (nI i) (mk S) m (a + (if cvr S j x z i = true then 1 else 0)) (z + 1) := by
    intro m a z hz
    simp only [f_L_lies_L85, f_L_lies_J116]
    rw [if_neg hz, l_covers hn ht e hK hj hC, bS, l_in (bN_lt64 hn) (show i < 6 by omega), bS, bN_bit]
    simp only [hi, decide_true, Bool.true_and]
    by_cases h : cvr S j x z i = true
    · rw [if_pos h, if_neg (by decide)]
    · rw [if_neg h, if_pos rfl]
  rw [show mFuel = 996 + 1 + 1 + 1 + 1 from rfl]
  generalize 996 = m
  rw [step _ _ _ (by decide), step _ _ _ (by decide), step _ _ _ (by decide)]
  simp only [f_L_lies_L85]
  rw [if_pos (show (2 : Int32) ≤ -1 + 1 + 1 + 1 by decide)]
theorem l_L71 {S : mT} {n t m q j c : Nat} (h : Inv n t m q S) (hj : j < t) (hc : c < 36) (v4 v5 : Int32) : f_L_lies_L71 (some 0) (some 38) (some 39) (nI j) v4 v5 (nI c) (mk S) mFuel 0 = some (.inr ()) := by
  obtain ⟨⟨⟨a1, a2⟩, ⟨a3, a4⟩, a5, a6⟩, ⟨b1, b2, b3, b4⟩, hK, hC, hM, hV, hT, hH, hN⟩ := h
  refine loopK (fun f k => f_L_lies_L71 (some 0) (some 38) (some 39) (nI j) v4 v5 (nI c) (mk S) f (nI k)) n (.inr ()) ?_ (fun f => ?he) mFuel (by unfold mFuel; omega)
  case he =>
    simp only [f_L_lies_L71]
    refine bnd (b0_L _) ?_
    rw [b2, if_pos (show nI n ≤ nI n by rw [n_le (by omega) (by omega)]; omega)]
  · intro f k hk
    simp only [f_L_lies_L71]
    refine bnd (b0_L _) ?_
    rw [b2, if_neg (show ¬ nI n ≤ nI k by rw [n_le (by omega) (by omega)]; omega)]
    refine bnd (l_odds a2 a4 b2 hK hj hC hk _ _ _ _) ?_
    refine bnd (kk_0 _) ?_
    refine bnd (c_odds a1 a2 a4 a3 b1 b3 hK hC hT hk hj hc) ?_
    rw [if_pos rfl, nI_1]
/-- tosser g can throw one to the cell c, in wind z -/
def zOf : Fin 3 → Int32
  | 0 => -1
  | 1 => 0
  | 2 => 1
def zIn : Fin 3 → Int
  | 0 => -1
  | 1 => 0
  | 2 => 1
theorem k_row : ∀ (k : Fin 36) (a : Fin 5), (((nI k.val / (6 : Int32)) + nI a.val) - (2 : Int32)).toInt = ((k.val / 6 : Nat) : Int) + (a.val : Int) - 2 ∧ (((nI k.val / (6 : Int32)) - nI a.val) + (2 : Int32)).toInt = ((k.val / 6 : Nat) : Int) - (a.val : Int) + 2 := by decide +kernel
theorem k_col : ∀ (k : Fin 36) (a : Fin 5) (z : Fin 3), ((((nI k.val - nI k.val / (6 : Int32) * (6 : Int32)) + nI a.val) - (2 : Int32)) + zOf z).toInt = ((k.val % 6 : Nat) : Int) + (a.val : Int) - 2 + zIn z ∧ ((((nI k.val - nI k.val / (6 : Int32) * (6 : Int32)) - nI a.val) + (2 : Int32)) - zOf z).toInt = ((k.val % 6 : Nat) : Int) - (a.val : Int) + 2 - zIn z := by decide +kernel
theorem cel_is {a b : Int32} {c : Nat} (hc : c < 36) : cel a b = nI c ↔ a.toInt = ((c / 6 : Nat) : Int) ∧ b.toInt = ((c % 6 : Nat) : Int) := by
  unfold cel
  by_cases h : (0 ≤ a.toInt ∧ a.toInt ≤ 5) ∧ 0 ≤ b.toInt ∧ b.toInt ≤ 5
  · rw [if_pos h]
    obtain ⟨i, i1, rfl, i3⟩ := nI_of' h.1.1
    obtain ⟨j, j1, rfl, j3⟩ := nI_of' h.2.1
    rw [show (6 : Int32) = nI 6 from rfl, n_mul, n_add, n_eq (by omega) (by omega), i3, j3]
    omega
  · rw [if_neg h]
    refine ⟨fun z => absurd z.symm (n_m1 (by omega)), fun z => absurd ?_ h⟩
    omega
theorem hit_is {S : mT} {j a b c : Nat} {z : Fin 3} (ha : a ≤ 4) (hb : b ≤ 4) (hc : c < 36) (e1 : S.2.1 45 j = nI a) (e2 : S.2.1 46 j = nI b) : anyB (hit S j (nI c) (zOf z)) 36 = decide ((0 ≤ ((c / 6 : Nat) : Int) - (a : Int) + 2 ∧ ((c / 6 : Nat) : Int) - (a : Int) + 2 < 6) ∧ 0 ≤ ((c % 6 : Nat) : Int) - (b : Int) + 2 - zIn z ∧ ((c % 6 : Nat) : Int) - (b : Int) + 2 - zIn z < 6) := by
  have key : ∀ k, k < 36 → (hit S j (nI c) (zOf z) k = true ↔ ((k / 6 : Nat) : Int) + (a : Int) - 2 = ((c / 6 : Nat) : Int) ∧ ((k % 6 : Nat) : Int) + (b : Int) - 2 + zIn z = ((c % 6 : Nat) : Int)) := by
    intro k hk
    unfold hit lnd
    rw [decide_eq_true_eq, e1, e2, cel_is hc, (k_row ⟨k, hk⟩ ⟨a, by omega⟩).1, (k_col ⟨k, hk⟩ ⟨b, by omega⟩ z).1]
  by_cases h : (0 ≤ ((c / 6 : Nat) : Int) - (a : Int) + 2 ∧ ((c / 6 : Nat) : Int) - (a : Int) + 2 < 6) ∧ 0 ≤ ((c % 6 : Nat) : Int) - (b : Int) + 2 - zIn z ∧ ((c % 6 : Nat) : Int) - (b : Int) + 2 - zIn z < 6
  · rw [decide_eq_true h]
    obtain ⟨r, hr⟩ := Int.eq_ofNat_of_zero_le h.1.1
    obtain ⟨s, hs⟩ := Int.eq_ofNat_of_zero_le h.2.1
    refine anyB_iff.mpr ⟨6 * r + s, by omega, (key _ (by omega)).mpr ⟨?_, ?_⟩⟩
    · rw [show (6 * r + s) / 6 = r by omega]
      omega
    · rw [show (6 * r + s) % 6 = s by omega]
      omega
  · rw [decide_eq_false h]
    refine Bool.eq_false_iff.mpr fun hz => ?_
    obtain ⟨k, hk, hh⟩ := anyB_iff.mp hz
    obtain ⟨h1, h2⟩ := (key k hk).mp hh
    refine h ⟨⟨by omega, by omega⟩, by omega, by omega⟩
theorem z_of {S : mT} (h : S.1 38 5 = -1 ∨ S.1 38 5 = 0 ∨ S.1 38 5 = 1) : ∃ z : Fin 3, S.1 38 5 = zOf z := by
  rcases h with h | h | h
  · exact ⟨0, h⟩
  · exact ⟨1, h⟩
  · exact ⟨2, h⟩
theorem l_L153 {S : mT} {n t m q c : Nat} (h : Inv n t m q S) (hc : c < 36) (o : Option Nat) (v3 v4 v5 : Int32) : f_L_lies_L153 o (some 38) (some 39) v3 v4 v5 (nI c) (mk S) mFuel 0 0 = some (nI (bN (fun j => anyB (hit S j (nI c) (S.1 9 8)) 36) t)) := by
  obtain ⟨⟨⟨a1, a2⟩, ⟨a3, a4⟩, a5, a6⟩, ⟨b1, b2, b3, b4⟩, hK, hC, hM, hV, hT, hH, ⟨⟨n1, n2⟩, n3⟩⟩ := h
  obtain ⟨z, hz⟩ := z_of n2
  have hl := loopG (fun m a k => f_L_lies_L153 o (some 38) (some 39) v3 v4 v5 (nI c) (mk S) m a (nI k)) t (fun k a => if anyB (hit S k (nI c) (S.1 9 8)) 36 then a ||| ((1 : Int32) <<< (nI k &&& 31)) else a) id 0 ?_ ?_ mFuel (by unfold mFuel; omega)
  · rw [it_bits (fun j => anyB (hit S j (nI c) (S.1 9 8)) 36) (show t ≤ 6 by omega)] at hl
    exact hl
  · intro m k a hk
    obtain ⟨t1, t2, u, v, t3, t4, t5, t6⟩ := hT k hk
    have t5' : S.2.1 45 k = nI u := t5
    have t6' : S.2.1 46 k = nI v := t6
    simp only [f_L_lies_L153, f_L_lies_J233]
    refine bnd (b1_L _) ?_
    rw [b4, if_neg (show ¬ nI t ≤ nI k by rw [n_le (by omega) (by omega)]; omega)]
    refine bnd (dp24_L _ (show k < 4 by omega)) ?_
    refine bnd (dp28_L _ (show k < 4 by omega)) ?_
    refine bnd (d36_L _) ?_
    rw [n1, hz, hit_is t3 t4 hc t5' t6', t5', t6', nI_1]
    simp only [lt_T, le_T, i0, show (6 : Int32).toInt = 6 from rfl]
    rw [(k_row ⟨c, hc⟩ ⟨u, by omega⟩).2, (k_col ⟨c, hc⟩ ⟨v, by omega⟩ z).2]
    generalize ((c / 6 : Nat) : Int) - (u : Int) + 2 = A
    generalize ((c % 6 : Nat) : Int) - (v : Int) + 2 - zIn z = B
    by_cases h1 : A < 0
    · rw [if_pos h1, decide_eq_false (by omega), if_neg (by decide)]
    · by_cases h2 : 6 ≤ A
      · rw [if_neg h1, if_pos h2, decide_eq_false (by omega), if_neg (by decide)]
      · by_cases h3 : B < 0
        · rw [if_neg h1, if_neg h2, if_pos h3, decide_eq_false (by omega), if_neg (by decide)]
        · by_cases h4 : 6 ≤ B
          · rw [if_neg h1, if_neg h2, if_neg h3, if_pos h4, decide_eq_false (by omega), if_neg (by decide)]
          · rw [if_neg h1, if_neg h2, if_neg h3, if_neg h4, decide_eq_true (by omega), if_pos rfl]
  · intro m a
    simp only [f_L_lies_L153]
    refine bnd (b1_L _) ?_
    rw [b4, if_pos (show nI t ≤ nI t by rw [n_le (by omega) (by omega)]; omega)]
    rfl
theorem op_lies {S : mT} {n t m q j c : Nat} (h : Inv n t m q S) (hj : j < t) (hc : c < 36) : f_L_lies (some 0) (some 38) (some 39) (nI j) (nI c) (mk S) = some 1 := by
  obtain ⟨⟨⟨a1, a2⟩, ⟨a3, a4⟩, a5, a6⟩, ⟨b1, b2, b3, b4⟩, hK, hC, hM, hV, hT, hH, ⟨⟨n1, n2⟩, n3⟩⟩ := id h
  have hl := loopK (fun f k => f_L_lies_L3 (some 0) (some 38) (some 39) (nI j) (nI c) (mk S) f (nI k)) 6 (.inr ()) ?_ (fun f => ?he) mFuel (by unfold mFuel; omega)
  case he =>
    simp only [f_L_lies_L3]
    rw [if_pos (by decide)]
  · unfold f_L_lies
    refine bnd hl ?_
    rfl
  · intro f k hk
    have hr : (c + 7 * k) % 36 < 36 := Nat.mod_lt _ (by decide)
    simp only [f_L_lies_L3]
    rw [if_neg (show ¬ (6 : Int32) ≤ nI k by rw [show (6 : Int32) = nI 6 from rfl, n_le (by omega) (by omega)]; omega), n_36 c k hc hk]
    refine bnd (kk_0 _) ?_
    refine bnd (c_lands a1 a2 a4 a3 b1 b3 hK hT hj hr) ?_
    refine bnd (d36_L _) ?_
    refine bnd (l_lands (by omega) _ _) ?_
    rw [n1, if_pos rfl]
    refine bnd (kk_0 _) ?_
    refine bnd (c_covers a1 a2 a4 a3 b1 b3 hK hC hT hj hr) ?_
    refine bnd (d36_L _) ?_
    refine bnd (l_covers a2 a4 b2 hK hj hC _ _) ?_
    rw [n1, if_pos rfl]
    refine bnd (l_L71 h hj hr _ _) ?_
    refine bnd (l_L153 h hr _ _ _ _) ?_
    refine bnd (kk_0 _) ?_
    refine bnd (c_who a1 a2 a4 b1 b3 hT hr) ?_
    rw [if_pos rfl, nI_1]
