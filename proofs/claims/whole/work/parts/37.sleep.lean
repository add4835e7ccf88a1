/-- the best place: among the free cells, the first with the most chances -/
def plc (tk : Nat → Bool) (ch : Nat → Int32) : Nat → Int32 × Int32 → Int32 × Int32 := fun k p => if tk k = true then p else if ch k ≤ p.2 then p else (nI k, ch k)
theorem plc_up (tk : Nat → Bool) (ch : Nat → Int32) (k : Nat) (p : Int32 × Int32) (h : -1 ≤ p.2.toInt) : -1 ≤ (plc tk ch k p).2.toInt := by
  unfold plc
  by_cases h1 : tk k = true
  · rw [if_pos h1]; exact h
  · rw [if_neg h1]
    by_cases h2 : ch k ≤ p.2
    · rw [if_pos h2]; exact h
    · rw [if_neg h2]
      rw [le_T] at h2
      show -1 ≤ (ch k).toInt
      omega
def tkn (S : mT) (i n : Nat) : Nat → Bool := fun c => anyB (tk (S.2.1 40) i (nI c)) n
theorem s_plcC {S : mT} {n i : Nat} (hn : n ≤ 6) (hi : i < n) (e : S.1 0 7 = nI n) (hC : NCells S n 9 rNow) : f_X10_bestPlaceFor_L11 0 (nI i) (mk S) mFuel (-1) (-1) 0 = some (it (plc (tkn S i n) (S.2.1 37)) 36 (-1, -1)).1 := by
  have hl := loopG (fun m (p : Int32 × Int32) k => f_X10_bestPlaceFor_L11 0 (nI i) (mk S) m p.1 p.2 (nI k)) 36 (plc (tkn S i n) (S.2.1 37)) (fun p => p.1) (-1, -1) ?_ ?_ mFuel (by unfold mFuel; omega)
  · exact hl
  · intro m k p hk
    simp only [f_X10_bestPlaceFor_L11, f_X10_bestPlaceFor_J51]
    have heq : anyB (tk (S.2.1 10) i (nI k)) n = tkn S i n k := anyB_congr (fun q hq => by unfold tk; rw [show S.2.1 10 q = S.2.1 40 q from (hC q hq).1])
    rw [if_neg (show ¬ (36 : Int32) ≤ nI k by rw [show (36 : Int32) = nI 36 from rfl, n_le (by omega) (by omega)]; omega), rR_0_6, bS, s_at (aG_37 S) (by decide) hk, bS, kk_0, bS, s_taken hn e _ (show i < 6 by omega), bS, nI_1, heq]
    unfold plc
    by_cases h1 : tkn S i n k = true
    · rw [if_pos h1, if_pos h1, if_neg (show ¬ (1 : Int32) = 0 by decide), ite_self]
    · rw [if_neg h1, if_neg h1, if_pos rfl]
      by_cases h2 : S.2.1 37 k ≤ p.2
      · rw [if_pos h2, if_pos h2]
      · rw [if_neg h2, if_neg h2]
  · intro m p
    simp only [f_X10_bestPlaceFor_L11]
    rw [if_pos (by decide)]
theorem s_plcR {S : mT} {n t i : Nat} (hn : n ≤ 6) (ht : t ≤ 4) (hi : i < n) (e : S.1 38 3 = nI n) (e2 : S.1 38 4 = nI t) (hK : KR S t) : f_X11_lieOf 38 (nI i) (mk S) = some (it (plc (tkn S i n) (fun c => tso S (S.1 38 5) t c)) 36 (-1, -1)).1 := by
  have hl := loopF (fun m (p : Int32 × Int32) k => f_X11_lieOf_L7 38 (nI i) (mk S) m p.1 p.2 (nI k)) 36 (plc (tkn S i n) (fun c => tso S (S.1 38 5) t c)) (fun p => p.1) (fun _ p => -1 ≤ p.2.toInt) (-1, -1) (by decide) ?_ ?_ mFuel (by unfold mFuel; omega)
  · unfold f_X11_lieOf
    rw [show f_X11_lieOf_L7 38 (nI i) (mk S) mFuel (-1) (-1) 0 = _ from hl.1, bS]
  · intro m k p hk hp
    refine ⟨?_, plc_up _ _ _ _ hp⟩
    simp only [f_X11_lieOf_L7, f_X11_lieOf_J34, f_X11_lieOf_J48, f_X11_lieOf_J61]
    rw [if_neg (show ¬ (36 : Int32) ≤ nI k by rw [show (36 : Int32) = nI 36 from rfl, n_le (by omega) (by omega)]; omega), kk_38, bS, s_free hn e _ (show i < 6 by omega), bS, bS, s_tso ht e2 hK hk, bS, nI_1, show anyB (tk (S.2.1 40) i (nI k)) n = tkn S i n k from rfl]
    unfold plc
    by_cases h1 : tkn S i n k = true
    · have h3 : (-1 : Int32) ≤ p.2 := by rw [le_T]; exact hp
      rw [if_pos h1, if_pos h1, if_pos rfl, if_pos h3, if_pos h3]
    · rw [if_neg h1, if_neg h1, if_neg (show ¬ (1 : Int32) = 0 by decide)]
      by_cases h2 : tso S (S.1 38 5) t k ≤ p.2
      · rw [if_pos h2, if_pos h2, if_pos h2]
      · rw [if_neg h2, if_neg h2, if_neg h2]
  · intro m p _
    simp only [f_X11_lieOf_L7]
    rw [if_pos (by decide)]
theorem plc_congr {tk : Nat → Bool} {f g : Nat → Int32} {p : Int32 × Int32} {n : Nat} (h : ∀ k, k < n → f k = g k) : it (plc tk f) n p = it (plc tk g) n p := it_congr (fun k b hk => by unfold plc; rw [h k hk])
-- 4 sleeper
theorem v_sleeper {N : Nat} {S : mT} (h : Inv N S) {n i : Nat} (hn : n ≤ 6) (eb : S.1 0 7 = nI n) (hi : i < n) (v : Int32) : ∃ r S1, f_X10_sleeper 0 (nI i) v (mk S) = some (r, mk S1) ∧ f_X11_tellSleeper 38 (nI i) v (mk S1) = some r ∧ (∃ f, S1 = uA S 37 f) := by
  obtain ⟨n', t, p, L, ⟨a1, a2, a3, a4, a5, a6, a7⟩, ⟨b1, b2, b3, b4, b5, b6, b7, b8⟩, hP, hK, hN, hI⟩ := id h
  have hnn : n' = n := by
    have h1 := b1.symm.trans eb
    rw [n_eq (by omega) (by omega)] at h1
    exact h1
  subst hnn
  obtain ⟨g1, g2, g3, ⟨g4, g5⟩, g6, g7, g8⟩ := hN
  have g5' : S.1 9 7 = nI (bN (cvB S 41) n') := g5
  have g7' : S.1 9 8 = S.1 38 5 := g7
  have h6 : i < 6 := by omega
  have hx : (nI i).toInt = i := nT (by omega)
  have stay : ∃ f, S = uA S 37 f := ⟨S.2.1 37, uA_id.symm⟩
  have d2 := g2 i hi
  have d3 := (g3 i h6).1 hi
  unfold f_X10_sleeper f_X11_tellSleeper
  rw [kk_0, bS, s_isSlC a1 b1, bS, if_pos (show 0 ≤ (nI i).toInt ∧ (nI i).toInt < n' by omega), if_neg (show ¬ (1 : Int32) = 0 by decide)]
  by_cases v0 : v = 0
  · refine ⟨S.2.1 40 i, S, ?_, ?_, stay⟩
    · rw [if_pos v0, rR_0_3, bS, rR_9_0, bS, s_at (aG_10 S) (by decide) h6, bS, show S.2.1 10 i = S.2.1 40 i from d2.1]
    · rw [if_pos v0, rR_38_10, bS, aL_40 S h6, bS]
  by_cases v1 : v = 1
  · refine ⟨S.2.1 41 i, S, ?_, ?_, stay⟩
    · rw [if_neg v0, if_pos v1, rR_0_3, bS, rI_9_7, bS, g5', n_bit (bN_lt64 a1) h6, bN_bit]
      simp only [hi, decide_true, Bool.true_and]
      unfold cvB
      have hz := g4 i hi
      rcases hz with hz | hz
      · rw [show S.2.1 41 i = 0 from hz]; rfl
      · rw [show S.2.1 41 i = 1 from hz]; rfl
    · rw [if_neg v0, if_pos v1, rR_38_11, bS, aL_41 S h6, bS]
  by_cases v2 : v = 2
  · refine ⟨S.2.1 42 i, S, ?_, ?_, stay⟩
    · rw [if_neg v0, if_neg v1, if_pos v2, rR_0_3, bS, rR_9_1, bS, s_at (aG_11 S) (by decide) h6, bS, show S.2.1 11 i = S.2.1 42 i from d3.1]
    · rw [if_neg v0, if_neg v1, if_pos v2, rR_38_12, bS, aL_42 S h6, bS]
  by_cases v3 : v = 3
  · refine ⟨S.2.1 43 i, S, ?_, ?_, stay⟩
    · rw [if_neg v0, if_neg v1, if_neg v2, if_pos v3, rR_0_3, bS, rR_9_2, bS, s_at (aG_12 S) (by decide) h6, bS, show S.2.1 12 i = S.2.1 43 i from d3.2]
    · rw [if_neg v0, if_neg v1, if_neg v2, if_pos v3, rR_38_13, bS, aL_43 S h6, bS]
  by_cases v4 : v = 4
  · refine ⟨(it (plc (tkn S i n') (fun c => tso S (S.1 38 5) t c)) 36 (-1, -1)).1, uA S 37 (it (cha S (S.1 9 8)) t (cpy 36 (fun _ => 0) (S.2.1 37))), ?_, ?_, _, rfl⟩
    rotate_left
    · rw [if_neg v0, if_neg v1, if_neg v2, if_neg v3, if_pos v4, kk_38, bS, s_plcR (S := uA S 37 _) (n := n') (t := t) a1 a2 hi b2 b4 hK, bS]
      rfl
    · unfold f_X10_bestPlaceFor
      rw [if_neg v0, if_neg v1, if_neg v2, if_neg v3, if_pos v4, bS, kk_0, bS, s_chC a2 b3 hK g6, bS, s_plcC (S := uA S 37 _) a1 hi b1 g2, bS, bS, uA_s]
      refine congrArg some (Prod.ext (congrArg (fun p : Int32 × Int32 => p.1) (plc_congr (tk := tkn S i n') (f := it (cha S (S.1 9 8)) t (cpy 36 (fun _ => 0) (S.2.1 37))) (g := fun c => tso S (S.1 38 5) t c) (p := (-1, -1)) (n := 36) fun k hk => ?_)) rfl)
      rw [cha_at hK hk _ _ (cpy_lt hk) t (Nat.le_refl t), g7']
      rfl
  · refine ⟨-102, S, ?_, ?_, stay⟩
    · rw [if_neg v0, if_neg v1, if_neg v2, if_neg v3, if_neg v4]
    · rw [if_neg v0, if_neg v1, if_neg v2, if_neg v3, if_neg v4]
theorem op_sleeper {N : Nat} {S : mT} (h : Inv N S) (x v : Int32) : ∃ r S1, f_X10_sleeper 0 x v (mk S) = some (r, mk S1) ∧ f_X11_sleeper 38 x v (mk S1) = some r ∧ Inv N S1 := by
  obtain ⟨n, t, p, L, ⟨a1, a2, a3, a4, a5, a6, a7⟩, ⟨b1, b2, b3, b4, b5, b6, b7, b8⟩, hP, hK, hN, hI⟩ := id h
  by_cases hx : 0 ≤ x.toInt ∧ x.toInt < n
  · obtain ⟨i, h1, rfl, h3⟩ := nI_of' hx.1
    obtain ⟨r, S1, r1, r2, f, rfl⟩ := v_sleeper h a1 b1 (show i < n by omega) v
    refine ⟨r, _, r1, ?_, h.same (ob_A rfl)⟩
    unfold f_X11_sleeper f_X11_sleeper_J19
    rw [kk_38, bS, s_isSlR (S := uA S 37 f) a1 b2, bS, if_pos hx, if_neg (by decide), bS, r2, bS]
  · refine ⟨-101, S, ?_, ?_, h⟩
    · unfold f_X10_sleeper
      rw [kk_0, bS, s_isSlC a1 b1, bS, if_neg hx, if_pos rfl]
    · unfold f_X11_sleeper f_X11_sleeper_J19
      rw [kk_38, bS, s_isSlR a1 b2, bS, if_neg hx, if_pos rfl]
