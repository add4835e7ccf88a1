theorem n_div {a b : Nat} (ha : a < 2 ^ 31) (hb : b < 2 ^ 31) : nI a / nI b = nI (a / b) := (Int32.ofNat_div ha hb).symm
theorem n_sub {a b : Nat} (h : b ≤ a) : nI a - nI b = nI (a - b) := (Int32.ofNat_sub a b h).symm
theorem n_rem {a b : Nat} (ha : a < 2 ^ 31) (hb : b < 2 ^ 31) : nI a - nI a / nI b * nI b = nI (a % b) := by
  rw [n_div ha hb, n_mul, n_sub (Nat.div_mul_le_self a b)]
  refine congrArg nI ?_
  have := Nat.div_add_mod a b
  have h2 : b * (a / b) = a / b * b := Nat.mul_comm _ _
  omega
def nx (s : Nat) : Nat := (1103515245 * s + 12345) % 2147483648
theorem nx_lt (s : Nat) : nx s < 2 ^ 31 := Nat.mod_lt _ (by decide)
theorem n_64 {s : Nat} (hs : s < 2 ^ 31) : (nI s).toInt64 = Int64.ofNat s := Int32.toInt64_ofNat' (by
  show (s : Int) ≤ 2147483647
  omega)
theorem l_lin {s : Nat} (hs : s < 2 ^ 31) : ((1103515245 : Int64) * (nI s).toInt64) + (12345 : Int64) = Int64.ofNat (1103515245 * s + 12345) := by
  rw [n_64 hs, Int64.ofNat_add, Int64.ofNat_mul]
  rfl
theorem s_nxC {s : Nat} (hs : s < 2 ^ 31) (w : mW) : f_X10_nextSeed (nI s) w = some (nI (nx s)) := by
  unfold f_X10_nextSeed nx
  rw [l_lin hs, show (2147483648 : Int64) = Int64.ofNat 2147483648 from rfl, ← Int64.ofNat_div (by omega) (by decide), ← Int64.ofNat_mul, ← Int64.ofNat_sub _ _ (Nat.div_mul_le_self _ _), Int64.toInt32_ofNat']
  refine congrArg some (congrArg nI ?_)
  omega
theorem l_and (a b : Nat) : Int64.ofNat a &&& Int64.ofNat b = Int64.ofNat (a &&& b) := by
  apply Int64.toBitVec_inj.mp
  show BitVec.ofNat 64 a &&& BitVec.ofNat 64 b = BitVec.ofNat 64 (a &&& b)
  rw [BitVec.ofNat_and]
theorem s_nxR {s : Nat} (hs : s < 2 ^ 31) : ((((1103515245 : Int64) * (nI s).toInt64) + (12345 : Int64)) &&& (2147483647 : Int64)).toInt32 = nI (nx s) := by
  rw [l_lin hs, show (2147483647 : Int64) = Int64.ofNat (2 ^ 31 - 1) from rfl, l_and, Nat.and_two_pow_sub_one_eq_mod, Int64.toInt32_ofNat']
  rfl
theorem s_drC {s m : Nat} (hs : s < 2 ^ 31) (hm : 0 < m) (hm2 : m < 2 ^ 31) (w : mW) : f_X10_draw (nI s) (nI m) w = some (nI (s / 65536 % m)) := by
  unfold f_X10_draw f_X10_draw_J15
  rw [if_neg (show ¬ nI m ≤ 0 by rw [show (0 : Int32) = nI 0 from rfl, n_le (by omega) (by omega)]; omega), if_neg (show ¬ nI m = 0 by rw [show (0 : Int32) = nI 0 from rfl, n_eq (by omega) (by omega)]; omega), show (65536 : Int32) = nI 65536 from rfl, n_div hs (by decide), n_rem (by omega) hm2]
theorem s_drR {S : mT} {s m : Nat} (hs : s < 2 ^ 31) (e : S.1 38 24 = nI s) (hm : 0 < m) (hm2 : m < 2 ^ 31) : f_X11_draw 38 (nI m) (mk S) = some (nI (nx s / 65536 % m), mk (uI S 38 24 (nI (nx s)))) := by
  have h1 := nx_lt s
  unfold f_X11_draw
  rw [rI_38_24, bS, e, s_nxR hs, wI_38_24, bS, rI_38_24, bS, uI_s, if_neg (show ¬ nI m = 0 by rw [show (0 : Int32) = nI 0 from rfl, n_eq (by omega) (by omega)]; omega), show (65536 : Int32) = nI 65536 from rfl, n_div h1 (by decide), n_rem (by omega) hm2]
/-- a night's toss -/
def cw (S : mT) (n t s : Nat) : Nat := bN (cvr S (nx (nx s) / 65536 % t) (nI (nx (nx (nx s)) / 65536 % 36)) (nI (nx s / 65536 % 3) - 1)) n
def sst (S : mT) (n t : Nat) : Nat → Nat × Int32 × Nat → Nat × Int32 × Nat := fun _ p => (nx (nx (nx p.1)), p.2.1 + nI (pop (cw S n t p.1)), p.2.2 ||| cw S n t p.1)
theorem op_seasons {N : Nat} {S : mT} (h : Inv N S) (x y z : Int32) : ∃ r S1, f_X10_seasons 0 x y z (mk S) = some r ∧ f_X11_seasons 38 x y z (mk S) = some (r, mk S1) ∧ Inv N S1 := by
  obtain ⟨n, t, p, L, ⟨a1, a2, a3, a4, a5, a6, a7⟩, ⟨b1, b2, b3, b4, b5, b6, b7, b8⟩, hP, hK, hN, hI⟩ := id h
  obtain ⟨g1, g2, g3, g4, g6, g7, g8⟩ := hN
  by_cases hx : 1 ≤ x.toInt ∧ x.toInt ≤ 60
  · by_cases hy : 0 ≤ y.toInt
    · by_cases hz : 0 ≤ z.toInt ∧ z.toInt ≤ 2
      · by_cases hn : n = 0
        · refine ⟨-103, S, ?_, ?_, h⟩
          · unfold f_X10_seasons f_X10_seasons_J24
            rw [if_neg (show ¬ x < 1 by rw [lt_T]; show ¬ x.toInt < 1; omega), if_neg (show ¬ (60 : Int32) < x by rw [lt_T]; show ¬ 60 < x.toInt; omega), if_neg (show ¬ y < 0 by rw [lt_T]; show ¬ y.toInt < 0; omega), if_neg (show ¬ z < 0 by rw [lt_T]; show ¬ z.toInt < 0; omega), if_pos (show z ≤ 2 by rw [le_T]; show z.toInt ≤ 2; omega), kk_0, bS, s_hasPort a1 b1, bS, if_pos hn, if_pos rfl]
          · unfold f_X11_seasons f_X11_seasons_J28
            rw [s_in x 1 60 1 60 rfl rfl, bS, if_pos hx, if_neg (by decide), if_neg (show ¬ y < 0 by rw [lt_T]; show ¬ y.toInt < 0; omega), s_in z 0 2 0 2 rfl rfl, bS, if_pos hz, if_neg (by decide), kk_38, bS, s_lacks a1 b2, bS, if_pos hn, if_neg (by decide)]
        · have ht : 0 < t := by omega
          obtain ⟨k0, hk1, rfl, hk3⟩ := nI_of' (x := x) (by omega)
          obtain ⟨s0, hs1, rfl, hs3⟩ := nI_of' hy
          have hc := loopF (fun m (p : Nat × Int32 × Nat) k => f_X10_seasons_L49 0 (nI k0) z (mk S) m (nI p.1) p.2.1 (nI p.2.2) (nI k)) k0 (sst S n t) (fun p => (nI p.1, p.2.1, nI p.2.2)) (fun _ p => p.1 < 2 ^ 31 ∧ p.2.2 < 64) (s0, 0, 0) ⟨hs1, show 0 < 64 by decide⟩ ?_ ?_ mFuel (by unfold mFuel; omega)
          · have hr := loopF (fun m (p : Nat × Int32 × Nat) k => f_X11_seasons_L55 38 (nI k0) z m p.2.1 (nI p.2.2) (nI k) (mk (uI S 38 24 (nI p.1)))) k0 (sst S n t) (fun p => (p.2.1, nI p.2.2, mk (uI S 38 24 (nI p.1)))) (fun _ p => p.1 < 2 ^ 31 ∧ p.2.2 < 64) (s0, 0, 0) ⟨hs1, show 0 < 64 by decide⟩ ?_ ?_ mFuel (by unfold mFuel; omega)
            · obtain ⟨c1, c2, c3⟩ := hc
              obtain ⟨r1, r2, r3⟩ := hr
              generalize it (sst S n t) k0 (s0, 0, 0) = q at c1 c2 c3 r1 r2 r3
              have hC : ∀ r, (if z = 2 then some (nI q.1) else if z = 0 then some q.2.1 else Option.bind (f_J6_bitCount_0f7a4 (nI q.2.2) (mk S)) fun r14 => some r14) = some r → f_X10_seasons 0 (nI k0) (nI s0) z (mk S) = some r := by
                intro r hr0
                rw [← hr0]
                unfold f_X10_seasons f_X10_seasons_J24 f_X10_seasons_J159
                rw [if_neg (show ¬ nI k0 < 1 by rw [lt_T]; show ¬ (nI k0).toInt < 1; omega), if_neg (show ¬ (60 : Int32) < nI k0 by rw [lt_T]; show ¬ 60 < (nI k0).toInt; omega), if_neg (show ¬ nI s0 < 0 by rw [lt_T]; show ¬ (nI s0).toInt < 0; omega), if_neg (show ¬ z < 0 by rw [lt_T]; show ¬ z.toInt < 0; omega), if_pos (show z ≤ 2 by rw [le_T]; show z.toInt ≤ 2; omega), kk_0, bS, s_hasPort a1 b1, bS, if_neg hn, if_neg (by decide), show f_X10_seasons_L49 0 (nI k0) z (mk S) mFuel (nI s0) 0 0 0 = _ from c1, bS]
              have hR : ∀ r, (if z = 0 then some (q.2.1, mk (uI S 38 24 (nI q.1))) else if z = 1 then Option.bind (f_X11_ones (nI q.2.2) (mk (uI S 38 24 (nI q.1)))) fun r18 => some (r18, mk (uI S 38 24 (nI q.1))) else some (nI q.1, mk (uI S 38 24 (nI q.1)))) = some r → f_X11_seasons 38 (nI k0) (nI s0) z (mk S) = some r := by
                intro r hr0
                rw [← hr0]
                unfold f_X11_seasons f_X11_seasons_J28 f_X11_seasons_J145
                rw [s_in _ 1 60 1 60 rfl rfl, bS, if_pos hx, if_neg (by decide), if_neg (show ¬ nI s0 < 0 by rw [lt_T]; show ¬ (nI s0).toInt < 0; omega), s_in z 0 2 0 2 rfl rfl, bS, if_pos hz, if_neg (by decide), kk_38, bS, s_lacks a1 b2, bS, if_neg hn, if_pos rfl, wI_38_24, bS, show f_X11_seasons_L55 38 (nI k0) z mFuel 0 0 0 (mk (uI S 38 24 (nI s0))) = _ from r1, bS]
                show (if z = 0 then _ else if z = 1 then _ else Option.bind (gI (mk (uI S 38 24 (nI q.1))) (some 38) 11 24) _) = _
                rw [rI_38_24, bS, uI_s]
              have hI1 : Inv N (uI S 38 24 (nI q.1)) := h.same (ob_I rfl)
              by_cases z0 : z = 0
              · refine ⟨q.2.1, _, hC _ ?_, hR _ ?_, hI1⟩
                · rw [if_neg (by rw [z0]; decide), if_pos z0]
                · rw [if_pos z0]
              · by_cases z1 : z = 1
                · refine ⟨nI (pop q.2.2), _, hC _ ?_, hR _ ?_, hI1⟩
                  · rw [if_neg (by rw [z1]; decide), if_neg z0, s_bc c3, bS]
                  · rw [if_neg z0, if_pos z1, s_ones c3, bS]
                · have z2 : z = 2 := by
                    rw [eq_T] at z0 z1 ⊢
                    have e0 : (0 : Int32).toInt = 0 := rfl
                    have e1 : (1 : Int32).toInt = 1 := rfl
                    have e2 : (2 : Int32).toInt = 2 := rfl
                    omega
                  refine ⟨nI q.1, _, hC _ ?_, hR _ ?_, hI1⟩
                  · rw [if_pos z2]
                  · rw [if_neg z0, if_neg z1]
            · intro m k p hk hp
              have q1 := nx_lt p.1
              have q2 := nx_lt (nx p.1)
              have q3 := nx_lt (nx (nx p.1))
              have hj : nx (nx p.1) / 65536 % t < t := Nat.mod_lt _ ht
              refine ⟨?_, q3, or64 hp.2 (bN_lt64 a1)⟩
              simp only [f_X11_seasons_L55]
              rw [if_neg (show ¬ nI k0 ≤ nI k by rw [n_le (by omega) (by omega)]; omega), kk_38, bS, show (3 : Int32) = nI 3 from rfl, s_drR hp.1 uI_s (by decide) (by decide), bS]
              simp only [uI_u]
              rw [rI_38_4, bS, show (uI S 38 24 (nI (nx p.1))).1 38 4 = nI t from b4, kk_38, bS, s_drR q1 uI_s ht (by omega), bS]
              simp only [uI_u]
              rw [kk_38, bS, show (36 : Int32) = nI 36 from rfl, s_drR q2 uI_s (by decide) (by decide), bS]
              simp only [uI_u]
              rw [kk_38, bS, s_covR (S := uI S 38 24 (nI (nx (nx (nx p.1))))) a1 a2 b2 hK hj g2, bS, s_ones (bN_lt64 a1), bS, nI_1, n_or2]
              rfl
            · intro m p hp
              simp only [f_X11_seasons_L55]
              rw [if_pos (show nI k0 ≤ nI k0 by rw [n_le (by omega) (by omega)]; omega)]
          · intro m k p hk hp
            have q1 := nx_lt p.1
            have q2 := nx_lt (nx p.1)
            have q3 := nx_lt (nx (nx p.1))
            have hj : nx (nx p.1) / 65536 % t < t := Nat.mod_lt _ ht
            refine ⟨?_, q3, or64 hp.2 (bN_lt64 a1)⟩
            simp only [f_X10_seasons_L49]
            rw [if_neg (show ¬ nI k0 ≤ nI k by rw [n_le (by omega) (by omega)]; omega), s_nxC hp.1, bS, show (3 : Int32) = nI 3 from rfl, s_drC q1 (by decide) (by decide), bS, s_nxC q1, bS, rI_0_8, bS, b3, s_drC q2 ht (by omega), bS, s_nxC q2, bS, show (36 : Int32) = nI 36 from rfl, s_drC q3 (by decide) (by decide), bS, kk_0, bS, s_crw a1 a2 b1 b3 hK hj g2 g6, bS, s_bc (bN_lt64 a1), bS, nI_1, n_or2]
            rfl
          · intro m p hp
            simp only [f_X10_seasons_L49]
            rw [if_pos (show nI k0 ≤ nI k0 by rw [n_le (by omega) (by omega)]; omega)]
      · refine ⟨-102, S, ?_, ?_, h⟩
        · unfold f_X10_seasons f_X10_seasons_J24
          rw [if_neg (show ¬ x < 1 by rw [lt_T]; show ¬ x.toInt < 1; omega), if_neg (show ¬ (60 : Int32) < x by rw [lt_T]; show ¬ 60 < x.toInt; omega), if_neg (show ¬ y < 0 by rw [lt_T]; show ¬ y.toInt < 0; omega)]
          by_cases z0 : z < 0
          · rw [if_pos z0]
          · rw [if_neg z0, if_neg]
            rw [lt_T, i0] at z0
            rw [le_T]
            show ¬ z.toInt ≤ 2
            omega
        · unfold f_X11_seasons f_X11_seasons_J28
          rw [s_in x 1 60 1 60 rfl rfl, bS, if_pos hx, if_neg (by decide), if_neg (show ¬ y < 0 by rw [lt_T]; show ¬ y.toInt < 0; omega), s_in z 0 2 0 2 rfl rfl, bS, if_neg hz, if_pos rfl]
    · refine ⟨-102, S, ?_, ?_, h⟩
      · unfold f_X10_seasons f_X10_seasons_J24
        rw [if_neg (show ¬ x < 1 by rw [lt_T]; show ¬ x.toInt < 1; omega), if_neg (show ¬ (60 : Int32) < x by rw [lt_T]; show ¬ 60 < x.toInt; omega), if_pos (show y < 0 by rw [lt_T]; show y.toInt < 0; omega)]
      · unfold f_X11_seasons f_X11_seasons_J28
        rw [s_in x 1 60 1 60 rfl rfl, bS, if_pos hx, if_neg (by decide), if_pos (show y < 0 by rw [lt_T]; show y.toInt < 0; omega)]
  · refine ⟨-102, S, ?_, ?_, h⟩
    · unfold f_X10_seasons f_X10_seasons_J24
      by_cases x1 : x < 1
      · rw [if_pos x1]
      · rw [if_neg x1, if_pos]
        rw [lt_T, show (1 : Int32).toInt = 1 from rfl] at x1
        rw [lt_T]
        show 60 < x.toInt
        omega
    · unfold f_X11_seasons f_X11_seasons_J28
      rw [s_in x 1 60 1 60 rfl rfl, bS, if_neg hx, if_pos rfl]
