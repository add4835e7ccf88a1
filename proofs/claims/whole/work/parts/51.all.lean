theorem full64 {n : Nat} (hn : n ≤ 6) : 2 ^ n - 1 < 64 := by
  have := Nat.pow_le_pow_right (show 0 < 2 by decide) hn
  have h2 : (2 : Nat) ^ 6 = 64 := by decide
  have h3 : 0 < 2 ^ n := Nat.pow_pos (by decide)
  omega
theorem open_msk {S : mT} {n : Nat} (hn : n ≤ 6) (hB : ∀ i, i < n → S.2.1 41 i = 0 ∨ S.2.1 41 i = 1) : wo (2 ^ n - 1) (bN (cvB S 41) n) = bN (opn S) n := by
  refine n_ext (wo64 _ (full64 hn)) (bN_lt64 hn) fun k hk => ?_
  rw [wo_bit (full64 hn) (bN_lt64 hn) hk, bN_bit, bN_bit, Nat.testBit_two_pow_sub_one]
  by_cases hkn : k < n
  · simp only [hkn, decide_true, Bool.true_and]
    unfold opn cvB
    rcases hB k hkn with h | h
    · rw [h]; simp
    · rw [h]; simp
  · simp [hkn]
/-- the count is in the price -/
theorem sqn_K {S : mT} {n T V : Nat} (hn : n ≤ 6) (hT : T ≤ 144) (hV : V < 64) (hi : GC S n T T V < 1048576) {K : Nat} (hK6 : K ≤ 6) (hK : sqn S n T V K = 0) (hj : ∀ j, j < K → ¬ sqn S n T V j = 0) : ∀ d, d ≤ K → GC S n T T (sqn S n T V (K - d)) % 16 = d
  | 0, _ => by
    rw [Nat.sub_zero, hK]
    unfold GC
    rw [Gm_0]
  | d + 1, hd => by
    have ih := sqn_K hn hT hV hi hK6 hK hj d (by omega)
    obtain ⟨h1, h2, h3, h4⟩ := sqn_ok hn hT hV hi (K - (d + 1)) (fun j hjk => hj j (by omega))
    obtain ⟨n1, n2, n3, n4⟩ := nxt_ok hn hT h1 (hj _ (by omega)) h3
    obtain ⟨q1, q2, q3⟩ := of_decide_eq_true n2
    have hs : sqn S n T V (K - d) = wo (sqn S n T V (K - (d + 1))) (cvf S n (nxt S n T (sqn S n T V (K - (d + 1))))) := by
      rw [show K - d = (K - (d + 1)) + 1 by omega, sqn]
    rw [hs] at ih
    omega
theorem two_ways {S : mT} {n T V : Nat} (hn : n ≤ 6) (hT : T ≤ 144) (hV : V < 64) (hi : GC S n T T V < 1048576) {K : Nat} (hK6 : K ≤ 6) (hK : sqn S n T V K = 0) (hj : ∀ j, j < K → ¬ sqn S n T V j = 0) : GR S n T T V % 100 = K ∧ GR S n T T V / 100 = GC S n T T V / 16 := by
  have h := sqn_K hn hT hV hi hK6 hK hj K (Nat.le_refl K)
  rw [Nat.sub_self] at h
  have h' : GC S n T T V % 16 = K := h
  have p1 := pop_le V
  rcases GQ_at (S := S) (T := T) hn hV with ⟨a1, a2⟩ | ⟨B, k, a1, a2, a3, a4⟩
  · omega
  · omega
/-- what the plan tells, by its number -/
def til (c K x : Nat) (r : Nat → Int32) : Int32 := if x = 0 then nI c else if x = 1 then nI K else if K ≤ x - 10 then -1 else r (x - 10)
def vOk (x : Nat) : Prop := x = 0 ∨ x = 1 ∨ (10 ≤ x ∧ x ≤ 15)
theorem s_tell {P : mT} {c K x : Nat} (hx : vOk x) (h6 : P.1 31 6 = nI c) (hc : c < 1048576) (hK : K ≤ 6) (h5 : P.1 31 5 = nI K) : f_X4_tell 31 (nI x) (mk P) = some (til (c / 16) K x (P.2.1 36)) := by
  simp only [f_X4_tell, f_X4_tell_J62, f_X4_tell_J61]
  refine bnd (rI_31_6 _) ?_
  rw [h6, if_pos (show nI c < (1048576 : Int32) by rw [show (1048576 : Int32) = nI 1048576 from rfl, n_lt (by omega) (by omega)]; exact hc)]
  unfold til
  rcases hx with hx | hx | ⟨hx1, hx2⟩
  · subst hx
    rw [if_pos (show nI 0 = (0 : Int32) from rfl), if_pos rfl]
    refine bnd (rI_31_6 _) ?_
    rw [h6, show (16 : Int32) = nI 16 from rfl, n_div (by omega) (by decide)]
  · subst hx
    rw [if_neg (show ¬ nI 1 = (0 : Int32) by decide), if_pos (show nI 1 = (1 : Int32) from rfl), if_neg (by decide), if_pos rfl]
    refine bnd (rI_31_5 _) ?_
    rw [h5]
  · rw [if_neg (show ¬ nI x = (0 : Int32) by rw [show (0 : Int32) = nI 0 from rfl, n_eq (by omega) (by omega)]; omega), if_neg (show ¬ nI x = (1 : Int32) by rw [show (1 : Int32) = nI 1 from rfl, n_eq (by omega) (by omega)]; omega), if_neg (show ¬ x = 0 by omega), if_neg (show ¬ x = 1 by omega), show nI x - (10 : Int32) = nI (x - 10) from n_sub hx1, if_neg (show ¬ nI (x - 10) < 0 by rw [show (0 : Int32) = nI 0 from rfl, n_lt (by omega) (by omega)]; omega)]
    refine bnd (rI_31_5 _) ?_
    rw [h5]
    by_cases hl : K ≤ x - 10
    · rw [if_pos ((n_le (by omega) (by omega)).mpr hl), if_pos hl]
    · rw [if_neg (fun z => hl ((n_le (by omega) (by omega)).mp z)), if_neg hl]
      refine bnd (rR_31_4 _) ?_
      refine bnd (s_at (aG_36 _) (by decide) (show x - 10 < 6 by omega)) ?_
      rfl
theorem s_tellN {P : mT} {v : Int32} {c : Nat} (h6 : P.1 31 6 = nI c) (hc : ¬ c < 1048576) (hc2 : c < 2 ^ 31) : f_X4_tell 31 v (mk P) = some (-1) := by
  simp only [f_X4_tell, f_X4_tell_J62, f_X4_tell_J61]
  refine bnd (rI_31_6 _) ?_
  rw [h6, if_neg (show ¬ nI c < (1048576 : Int32) by rw [show (1048576 : Int32) = nI 1048576 from rfl, n_lt (by omega) (by omega)]; exact hc)]
theorem s_allOf {S : mT} {n t : Nat} (ht : t ≤ 4) (hn : n ≤ 6) (e : S.1 38 3 = nI n) (e2 : S.1 38 4 = nI t) (hK : KR S t) (hC : NCells S n 9 rNow) {x : Nat} (hx : vOk x) : ∃ U, ob U = ob S ∧ U.2.2.2.1 = S.2.2.2.1 ∧ ((¬ GC S n (36 * t) (36 * t) (bN (opn S) n) < 1048576 → f_X11_allOf 38 (nI x) (mk S) = some (-1, mk U)) ∧ (GC S n (36 * t) (36 * t) (bN (opn S) n) < 1048576 → ∀ K, K ≤ 6 → sqn S n (36 * t) (bN (opn S) n) K = 0 → ∀ r : Nat → Int32, (∀ j, j < K → ¬ sqn S n (36 * t) (bN (opn S) n) j = 0 ∧ r j = nI (nxt S n (36 * t) (sqn S n (36 * t) (bN (opn S) n) j))) → f_X11_allOf 38 (nI x) (mk S) = some (til (GC S n (36 * t) (36 * t) (bN (opn S) n) / 16) K x r, mk U))) := by
  obtain ⟨f, g, l1, l2, l3⟩ := s_lay ht hn e e2 hK hC
  have hV : bN (opn S) n < 64 := bN_lt64 hn
  have gr := GR_le S n (36 * t) (36 * t) (bN (opn S) n)
  have hfin := GR_fin (S := S) (T := 36 * t) hn hV
  have ho2 : ob (w2 S f g) = ob S := (ob_A rfl).trans (ob_A rfl)
  have hg0 : (w2 S f g).2.1 49 (bN (opn S) n) = nI (GR S n (36 * t) (36 * t) (bN (opn S) n)) := by
    have := l2 0 (bN (opn S) n) (Nat.le_refl 0) (by omega) hV
    rw [Nat.mul_zero, Nat.zero_add, Nat.sub_zero] at this
    exact this
  have hpre : ∀ y : Option (Int32 × mW), (if nI (GR S n (36 * t) (36 * t) (bN (opn S) n)) < (1000000 : Int32) then (if (2 : Int32) ≤ nI x then Option.bind (kO (mk (w2 S f g)) (some 38) 11) fun _ => Option.bind (f_X11_layRow 38 (nI (bN (opn S) n)) (mk (w2 S f g))) fun w7 => Option.bind (gI w7 (some 38) 11 21) fun r9 => if r9 ≤ nI x - (10 : Int32) then some (-1, w7) else Option.bind (gR w7 (some 38) 11 20) fun r10 => Option.bind (aL w7 r10 (nI x - (10 : Int32))) fun r11 => some (r11, w7) else (if nI x = 0 then some (nI (GR S n (36 * t) (36 * t) (bN (opn S) n)) / (100 : Int32), mk (w2 S f g)) else some (nI (GR S n (36 * t) (36 * t) (bN (opn S) n)) - nI (GR S n (36 * t) (36 * t) (bN (opn S) n)) / (100 : Int32) * (100 : Int32), mk (w2 S f g)))) else some (-1, mk (w2 S f g))) = y → f_X11_allOf 38 (nI x) (mk S) = y := by
    intro y hy
    rw [← hy]
    unfold f_X11_allOf f_X11_allOf_J82 f_X11_allOf_J52
    refine bnd (kk_38 _) ?_
    refine bnd l1 ?_
    refine bnd (kk_38 _) ?_
    refine bnd (s_open (S := w2 S f g) hn e) ?_
    refine bnd (rR_38_19 _) ?_
    rw [show bN (opn (w2 S f g)) n = bN (opn S) n from rfl]
    refine bnd (aL_49 _ (show bN (opn S) n < 9280 by omega)) ?_
    rw [hg0]
    by_cases h1 : nI (GR S n (36 * t) (36 * t) (bN (opn S) n)) < (1000000 : Int32)
    · rw [if_pos h1, if_pos h1]
      by_cases h2 : (2 : Int32) ≤ nI x
      · rw [if_pos h2, if_pos h2]
      · rw [if_neg h2, if_neg h2]
        by_cases h3 : nI x = 0
        · rw [if_pos h3, if_pos h3]
          refine bnd (rR_38_19 _) ?_
          refine bnd (aL_49 _ (show bN (opn S) n < 9280 by omega)) ?_
          rw [hg0]
        · rw [if_neg h3, if_neg h3]
          refine bnd (rR_38_19 _) ?_
          refine bnd (aL_49 _ (show bN (opn S) n < 9280 by omega)) ?_
          rw [hg0]
    · rw [if_neg h1, if_neg h1]
  by_cases hi : GC S n (36 * t) (36 * t) (bN (opn S) n) < 1048576
  · have h1 : nI (GR S n (36 * t) (36 * t) (bN (opn S) n)) < (1000000 : Int32) := by
      rw [show (1000000 : Int32) = nI 1000000 from rfl, n_lt (by omega) (by omega)]
      exact hfin.mpr hi
    obtain ⟨K0, r0, y1, y2, y3, y4⟩ := s_row hn ht hV hK hi l2 l3 (36 * t) 0 0 mFuel ((w2 S f g).2.1 50) (by omega) (by unfold mFuel; omega) (fun j hj => absurd hj (by omega)) (fun _ x hx => absurd hx (by omega))
    have uniq : ∀ K, K ≤ 6 → sqn S n (36 * t) (bN (opn S) n) K = 0 → (∀ j, j < K → ¬ sqn S n (36 * t) (bN (opn S) n) j = 0) → K = K0 := by
      intro K hK6 hK0 hKj
      apply Nat.le_antisymm
      · apply Classical.byContradiction
        intro hz
        exact hKj K0 (by omega) y3
      · apply Classical.byContradiction
        intro hz
        exact (y4 K (by omega)).1 hK0
    by_cases hx2 : 10 ≤ x
    · refine ⟨rw50 (w2 S f g) r0 K0, (ob_I rfl).trans ((ob_A rfl).trans ho2), rfl, fun z => absurd hi z, fun _ K hK6 hK0 r hr => ?_⟩
      have hKK := uniq K hK6 hK0 (fun j hj => (hr j hj).1)
      subst hKK
      refine hpre _ ?_
      have hx15 : x ≤ 15 := by rcases hx with h | h | h <;> omega
      rw [if_pos h1, if_pos (show (2 : Int32) ≤ nI x by rw [show (2 : Int32) = nI 2 from rfl, n_le (by omega) (by omega)]; omega)]
      refine bnd (kk_38 _) ?_
      have hrow : f_X11_layRow 38 (nI (bN (opn S) n)) (mk (w2 S f g)) = some (mk (rw50 (w2 S f g) r0 K)) := by
        unfold f_X11_layRow
        refine bnd (wI_38_21 _ _) ?_
        have hz : uI (w2 S f g) 38 21 0 = rw50 (w2 S f g) ((w2 S f g).2.1 50) 0 := by
          unfold rw50
          rw [uA_id]
          rfl
        rw [hz]
        refine bnd y1 ?_
        rfl
      refine bnd hrow ?_
      refine bnd (rI_38_21 _) ?_
      rw [show (rw50 (w2 S f g) r0 K).1 38 21 = nI K from rfl, show nI x - (10 : Int32) = nI (x - 10) from n_sub hx2]
      unfold til
      rw [if_neg (show ¬ x = 0 by omega), if_neg (show ¬ x = 1 by omega)]
      by_cases hl : K ≤ x - 10
      · rw [if_pos ((n_le (by omega) (by omega)).mpr hl), if_pos hl]
      · rw [if_neg (fun z => hl ((n_le (by omega) (by omega)).mp z)), if_neg hl]
        refine bnd (rR_38_20 _) ?_
        refine bnd (aL_50 _ (show x - 10 < 6 by omega)) ?_
        rw [show (rw50 (w2 S f g) r0 K).2.1 50 (x - 10) = r0 (x - 10) from rfl, (y4 _ (by omega)).2, (hr _ (by omega)).2]
    · refine ⟨w2 S f g, ho2, rfl, fun z => absurd hi z, fun _ K hK6 hK0 r hr => ?_⟩
      obtain ⟨t1, t2⟩ := two_ways hn (show 36 * t ≤ 144 by omega) hV hi hK6 hK0 (fun j hj => (hr j hj).1)
      refine hpre _ ?_
      rw [if_pos h1, show (100 : Int32) = nI 100 from rfl, n_div (by omega) (by decide), n_mul, n_sub (Nat.div_mul_le_self _ _)]
      unfold til
      rcases hx with hx | hx | hx
      · subst hx
        rw [if_neg (show ¬ (2 : Int32) ≤ nI 0 by decide), if_pos (show nI 0 = (0 : Int32) from rfl), if_pos rfl, t2]
      · subst hx
        rw [if_neg (show ¬ (2 : Int32) ≤ nI 1 by decide), if_neg (show ¬ nI 1 = (0 : Int32) by decide), if_neg (show ¬ (1 : Nat) = 0 by decide), if_pos rfl]
        have : GR S n (36 * t) (36 * t) (bN (opn S) n) - GR S n (36 * t) (36 * t) (bN (opn S) n) / 100 * 100 = K := by omega
        rw [this]
      · omega
  · refine ⟨w2 S f g, ho2, rfl, fun _ => hpre _ ?_, fun z => absurd z hi⟩
    rw [if_neg (show ¬ nI (GR S n (36 * t) (36 * t) (bN (opn S) n)) < (1000000 : Int32) by rw [show (1000000 : Int32) = nI 1000000 from rfl, n_lt (by omega) (by omega)]; exact fun z => hi (hfin.mp z))]
