theorem GC_16 {S : mT} {n T V : Nat} (hn : n ≤ 6) (hV : V < 64) (h0 : ¬ V = 0) (hi : GC S n T T V < 1048576) : 1 ≤ GC S n T T V / 16 := by
  obtain ⟨x, x1, x2, x3⟩ := GC_B hn hV h0 hi
  have hb : 1 ≤ bf S x ∧ bf S x ≤ 5 := btN_b (kdO S (x / 36))
  omega
theorem s_nightsOf {S : mT} {n t : Nat} (ht : t ≤ 4) (hn : n ≤ 6) (h0 : ¬ n = 0) (e : S.1 38 3 = nI n) (e2 : S.1 38 4 = nI t) (hK : KR S t) (hC : NCells S n 9 rNow) : ∃ U, ob U = ob S ∧ U.2.2.2.1 = S.2.2.2.1 ∧ f_X11_nightsOf 38 (mk S) = some (if GC S n (36 * t) (36 * t) (2 ^ n - 1) < 1048576 then S.1 38 6 / nI (GC S n (36 * t) (36 * t) (2 ^ n - 1) / 16) else -1, mk U) := by
  obtain ⟨f, g, l1, l2, l3⟩ := s_lay ht hn e e2 hK hC
  have hV := full64 hn
  have hv0 : ¬ 2 ^ n - 1 = 0 := by
    have := Nat.pow_le_pow_right (show 0 < 2 by decide) (show 1 ≤ n by omega)
    omega
  have gr := GR_le S n (36 * t) (36 * t) (2 ^ n - 1)
  have hfin := GR_fin (S := S) (T := 36 * t) hn hV
  have hg0 : (w2 S f g).2.1 49 (2 ^ n - 1) = nI (GR S n (36 * t) (36 * t) (2 ^ n - 1)) := by
    have := l2 0 (2 ^ n - 1) (Nat.le_refl 0) (by omega) hV
    rw [Nat.mul_zero, Nat.zero_add, Nat.sub_zero] at this
    exact this
  refine ⟨w2 S f g, (ob_A rfl).trans (ob_A rfl), rfl, ?_⟩
  unfold f_X11_nightsOf f_X11_nightsOf_J37
  refine bnd (kk_38 _) ?_
  refine bnd l1 ?_
  refine bnd (rR_38_19 _) ?_
  refine bnd (rI_38_3 _) ?_
  rw [show (w2 S f g).1 38 3 = nI n from e, n_full hn]
  refine bnd (aL_49 _ (show 2 ^ n - 1 < 9280 by omega)) ?_
  rw [hg0]
  by_cases hi : GC S n (36 * t) (36 * t) (2 ^ n - 1) < 1048576
  · have h16 := GC_16 hn hV hv0 hi
    have heq : GR S n (36 * t) (36 * t) (2 ^ n - 1) / 100 = GC S n (36 * t) (36 * t) (2 ^ n - 1) / 16 := by
      have p1 := pop_le (2 ^ n - 1)
      rcases GQ_at (S := S) (T := 36 * t) hn hV with ⟨x1, x2⟩ | ⟨B, k, x1, x2, x3, x4⟩
      · omega
      · omega
    rw [if_pos (show nI (GR S n (36 * t) (36 * t) (2 ^ n - 1)) < (1000000 : Int32) by rw [show (1000000 : Int32) = nI 1000000 from rfl, n_lt (by omega) (by omega)]; exact hfin.mpr hi), if_pos hi]
    refine bnd (rI_38_6 _) ?_
    rw [show (100 : Int32) = nI 100 from rfl, n_div (by omega) (by decide), heq, if_neg (show ¬ nI (GC S n (36 * t) (36 * t) (2 ^ n - 1) / 16) = 0 by rw [show (0 : Int32) = nI 0 from rfl, n_eq (by omega) (by omega)]; omega)]
    rfl
  · rw [if_neg (show ¬ nI (GR S n (36 * t) (36 * t) (2 ^ n - 1)) < (1000000 : Int32) by rw [show (1000000 : Int32) = nI 1000000 from rfl, n_lt (by omega) (by omega)]; exact fun z => hi (hfin.mp z)), if_neg hi]
theorem c_nights {S : mT} {n t : Nat} (ht : t ≤ 4) (hn : n ≤ 6) (h0 : ¬ n = 0) (e : S.1 0 7 = nI n) (e2 : S.1 0 8 = nI t) (e4 : S.1 9 8 = S.1 38 5) (hK : KR S t) (hC : NCells S n 9 rNow) (hT : NTurn S t 9 rNow) : ∃ P, ob P = ob S ∧ f_X10_nights 0 (mk S) = some (if GC S n (36 * t) (36 * t) (2 ^ n - 1) < 1048576 then S.1 9 9 / nI (GC S n (36 * t) (36 * t) (2 ^ n - 1) / 16) else -1, mk P) := by
  have hV := full64 hn
  have hv0 : ¬ 2 ^ n - 1 = 0 := by
    have := Nat.pow_le_pow_right (show 0 < 2 by decide) (show 1 ≤ n by omega)
    omega
  have lg := GC_le S n (36 * t) (36 * t) (2 ^ n - 1)
  obtain ⟨P, q1, q2, q3, q4⟩ := s_plan hn ht hV e e2 e4 hK hC hT
  refine ⟨P, q2, ?_⟩
  unfold f_X10_nights f_X10_nights_J44
  rw [kk_0, bS, s_hasPort hn e, bS, if_neg h0, if_neg (by decide), bS, s_every hn e, bS]
  refine bnd rfl ?_
  refine bnd q1 ?_
  refine bnd (rR_0_5 _) ?_
  refine bnd (kk_31 _) ?_
  by_cases hi : GC S n (36 * t) (36 * t) (2 ^ n - 1) < 1048576
  · obtain ⟨K, c1, c2, c3, c4⟩ := q4 hi
    have h16 := GC_16 hn hV hv0 hi
    refine bnd (s_tell (x := 0) (Or.inl rfl) q3 hi c1 c2) ?_
    rw [show til (GC S n (36 * t) (36 * t) (2 ^ n - 1) / 16) K 0 (P.2.1 36) = nI (GC S n (36 * t) (36 * t) (2 ^ n - 1) / 16) from if_pos rfl, if_neg (show ¬ nI (GC S n (36 * t) (36 * t) (2 ^ n - 1) / 16) ≤ 0 by rw [show (0 : Int32) = nI 0 from rfl, n_le (by omega) (by omega)]; omega), if_pos hi]
    refine bnd (rR_0_3 _) ?_
    refine bnd (rI_9_9 _) ?_
    rw [if_neg (show ¬ nI (GC S n (36 * t) (36 * t) (2 ^ n - 1) / 16) = 0 by rw [show (0 : Int32) = nI 0 from rfl, n_eq (by omega) (by omega)]; omega), show P.1 9 9 = S.1 9 9 from ob_i q2 rfl]
  · refine bnd (s_tellN q3 hi (by omega)) ?_
    rw [if_pos (show (-1 : Int32) ≤ 0 by decide), if_neg hi]
theorem op_nights {N : Nat} {S : mT} (h : Inv N S) : ∃ r S1 S2, f_X10_nights 0 (mk S) = some (r, mk S1) ∧ f_X11_nights 38 (mk S1) = some (r, mk S2) ∧ Inv N S2 := by
  obtain ⟨n, t, p, L, ⟨a1, a2, a3, a4, a5, a6, a7⟩, ⟨b1, b2, b3, b4, b5, b6, b7, b8⟩, hP, hK, hN, hI⟩ := id h
  obtain ⟨g1, g2, g3, g4, g6, g7, g8, g9⟩ := hN
  by_cases h0 : n = 0
  · refine ⟨-103, S, S, ?_, ?_, h⟩
    · unfold f_X10_nights
      rw [kk_0, bS, s_hasPort a1 b1, bS, if_pos h0, if_pos rfl]
    · unfold f_X11_nights f_X11_nights_J16
      rw [kk_38, bS, s_lacks a1 b2, bS, if_pos h0, if_neg (by decide)]
  · obtain ⟨P, q2, hc⟩ := c_nights a2 a1 h0 b1 b3 g7 hK g2 g6
    obtain ⟨U, u1, u2, u3⟩ := s_nightsOf (S := P) a2 a1 h0 (by rw [ob_i q2 rfl]; exact b2) (by rw [ob_i q2 rfl]; exact b4) (ob_KR q2 hK) (ob_NC q2 g2)
    rw [ob_GC q2, show P.1 38 6 = S.1 9 9 from (ob_i q2 rfl).trans g8.symm] at u3
    refine ⟨_, P, U, hc, ?_, h.same (u1.trans q2)⟩
    unfold f_X11_nights f_X11_nights_J16
    rw [kk_38, bS, s_lacks (n := n) a1 (by rw [ob_i q2 rfl]; exact b2), bS, if_neg h0, if_pos rfl, bS, u3, bS]
