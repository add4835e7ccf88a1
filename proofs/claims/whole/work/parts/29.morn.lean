def cnt (p : Nat → Bool) : Nat → Nat
  | 0 => 0
  | n + 1 => cnt p n + if p n then 1 else 0
theorem k_pop : ∀ (n : Fin 6) (a : Fin 64), a.val < 2 ^ n.val → pop (a.val + 2 ^ n.val) = pop a.val + 1 := by decide +kernel
theorem pop_bN (p : Nat → Bool) : ∀ {n : Nat}, n ≤ 6 → pop (bN p n) = cnt p n
  | 0, _ => by show pop 0 = 0; decide
  | n + 1, h => by
    rw [bN, cnt]
    by_cases hp : p n = true
    · rw [if_pos hp, if_pos hp, k_pop ⟨n, by omega⟩ ⟨bN p n, bN_lt64 (by omega)⟩ (bN_lt p n), pop_bN p (by omega)]
    · rw [if_neg hp, if_neg hp, Nat.add_zero, pop_bN p (by omega)]
      rfl
def sm (f : Nat → Int32) (n : Nat) : Int32 := it (fun k x => x + f k) n 0
theorem sm_cnt {f : Nat → Int32} : ∀ {n : Nat}, (∀ i, i < n → f i = 0 ∨ f i = 1) → sm f n = nI (cnt (fun i => decide (f i = 1)) n)
  | 0, _ => rfl
  | n + 1, h => by
    show sm f n + f n = _
    rw [sm_cnt (fun i hi => h i (by omega)), cnt]
    rcases h n (by omega) with h1 | h1
    · rw [h1, show (0 : Int32) = nI 0 from rfl, n_add]; rfl
    · rw [h1, show (1 : Int32) = nI 1 from rfl, n_add]; rfl
theorem sm_congr {f g : Nat → Int32} {n : Nat} (h : ∀ i, i < n → f i = g i) : sm f n = sm g n := it_congr (fun k b hk => by rw [h k hk])
theorem n_z (x : Int32) : x + 0 = x := Int32.add_zero x
theorem sm_zero {f : Nat → Int32} {n : Nat} : ∀ {m : Nat}, n ≤ m → (∀ i, n ≤ i → i < m → f i = 0) → sm f m = sm f n
  | 0, h, _ => by rw [show n = 0 by omega]
  | m + 1, h, hz => by
    by_cases he : n = m + 1
    · rw [he]
    · show sm f m + f m = _
      rw [hz m (by omega) (by omega), sm_zero (n := n) (m := m) (by omega) (fun i h1 h2 => hz i h1 (by omega)), n_z]
theorem s_sumC {w : mW} {a n : Nat} {f : Nat → Int32} (h : aG w (some a) = some (n, f)) (hn : n < 1000) : f_X10_sum (some a) w = some (sm f n) := by
  have hl := loopG (fun m x k => f_X10_sum_L4 (some a) w m x (nI k)) n (fun k x => x + f k) id 0 ?_ ?_ mFuel (by unfold mFuel; omega)
  · unfold f_X10_sum
    rw [show f_X10_sum_L4 (some a) w mFuel 0 0 = _ from hl, bS]
    rfl
  · intro m k x hk
    simp only [f_X10_sum_L4, oC_s, aN_of h, bS]
    rw [if_neg (show ¬ nI n ≤ nI k by rw [n_le (by omega) (by omega)]; omega), aL_of h (by omega) hk, bS, nI_1]
  · intro m x
    simp only [f_X10_sum_L4, oC_s, aN_of h, bS]
    rw [if_pos (show nI n ≤ nI n by rw [n_le (by omega) (by omega)]; omega)]
    rfl
theorem s_sumR {S : mT} {a m n : Nat} {f : Nat → Int32} (h : aG (mk S) (some a) = some (m, f)) (hm : m < 1000) (hn : n ≤ m) (e : S.1 38 3 = nI n) : f_X11_sumOf 38 (some a) (mk S) = some (sm f n) := by
  have hl := loopG (fun m x k => f_X11_sumOf_L4 38 (some a) (mk S) m x (nI k)) n (fun k x => x + f k) id 0 ?_ ?_ mFuel (by unfold mFuel; omega)
  · unfold f_X11_sumOf
    rw [show f_X11_sumOf_L4 38 (some a) (mk S) mFuel 0 0 = _ from hl, bS]
    rfl
  · intro m' k x hk
    simp only [f_X11_sumOf_L4, rI_38_3, e, bS]
    rw [if_neg (show ¬ nI n ≤ nI k by rw [n_le (by omega) (by omega)]; omega), aL_of h (by omega) (by omega), bS, nI_1]
  · intro m' x
    simp only [f_X11_sumOf_L4, rI_38_3, e, bS]
    rw [if_pos (show nI n ≤ nI n by rw [n_le (by omega) (by omega)]; omega)]
    rfl
-- 19 count
theorem ite2 {α : Type} {c : Prop} [Decidable c] {a b a' b' : Option α} (h1 : ∃ r, a = some r ∧ a' = some r) (h2 : ∃ r, b = some r ∧ b' = some r) : ∃ r, (if c then a else b) = some r ∧ (if c then a' else b') = some r := by
  by_cases h : c
  · rw [if_pos h, if_pos h]; exact h1
  · rw [if_neg h, if_neg h]; exact h2
theorem cov_sum {S : mT} {n : Nat} (hn : n ≤ 6) (h : ∀ i, i < n → S.2.1 41 i = 0 ∨ S.2.1 41 i = 1) : sm (S.2.1 41) n = nI (pop (bN (cvB S 41) n)) := by
  rw [pop_bN _ hn, sm_cnt h]
  rfl
theorem op_count {N : Nat} {S : mT} (h : Inv N S) (x : Int32) : ∃ r, f_X10_count 0 x (mk S) = some r ∧ f_X11_count 38 x (mk S) = some r := by
  obtain ⟨n, t, p, L, ⟨a1, a2, a3, a4, a5, a6, a7⟩, ⟨b1, b2, b3, b4, b5, b6, b7, b8⟩, hP, hK, hN, hI⟩ := id h
  obtain ⟨⟨c, c1, c2, c3, c4⟩, g2, g3, ⟨g4, g5⟩, g6, ⟨g7, g8, ⟨g9, _⟩, g10, _⟩⟩ := hN
  have key : ∃ r, f_X10_count 0 x (mk S) = some r ∧ f_X11_countOf 38 x (mk S) = some r := by
    unfold f_X10_count f_X11_countOf
    refine ite2 ?_ (ite2 ?_ (ite2 ?_ (ite2 ?_ (ite2 ?_ (ite2 ?_ (ite2 ?_ (ite2 ?_ (ite2 ?_ (ite2 ?_ (ite2 ?_ (ite2 ?_ ?_)))))))))))
    · rw [rI_0_7, bS, rI_38_3, bS, b1, b2]; exact ⟨_, rfl, rfl⟩
    · rw [rI_0_8, bS, rI_38_4, bS, b3, b4]; exact ⟨_, rfl, rfl⟩
    · rw [rR_0_3, bS, rI_9_7, bS, show S.1 9 7 = _ from g5, s_bc (bN_lt64 a1), bS, rR_38_11, bS, kk_38, bS, s_sumR (aG_41 S) (by decide) a1 b2, bS, cov_sum a1 g4]
      exact ⟨_, rfl, rfl⟩
    · rw [rR_0_3, bS, rI_9_9, bS, rI_38_6, bS, show S.1 9 9 = _ from g8]; exact ⟨_, rfl, rfl⟩
    · rw [rR_0_3, bS, rI_9_8, bS, rI_38_5, bS, show S.1 9 8 = _ from g7]; exact ⟨_, rfl, rfl⟩
    · rw [rR_0_3, bS, rI_9_10, bS, rI_38_7, bS, show S.1 9 10 = _ from g9]; exact ⟨_, rfl, rfl⟩
    · rw [rR_0_3, bS, rR_9_1, bS, s_sumC (aG_11 S) (by decide), bS, rR_38_12, bS, kk_38, bS, s_sumR (aG_42 S) (by decide) a1 b2, bS]
      refine ⟨_, rfl, ?_⟩
      rw [sm_zero a1 (fun i h1 h2 => ((g3 i h2).2 h1).1)]
      exact congrArg some (sm_congr fun i hi => (((g3 i (by omega)).1 hi).1).symm)
    · rw [rR_0_3, bS, rR_9_2, bS, s_sumC (aG_12 S) (by decide), bS, rR_38_13, bS, kk_38, bS, s_sumR (aG_43 S) (by decide) a1 b2, bS]
      refine ⟨_, rfl, ?_⟩
      rw [sm_zero a1 (fun i h1 h2 => ((g3 i h2).2 h1).2)]
      exact congrArg some (sm_congr fun i hi => (((g3 i (by omega)).1 hi).2).symm)
    · rw [rR_0_3, bS, rI_9_11, bS, rI_38_8, bS, show S.1 9 11 = _ from g10]; exact ⟨_, rfl, rfl⟩
    · rw [rR_0_3, bS, rR_9_6, bS, rI_16_3, bS, rI_38_22, bS, show S.1 16 3 = _ from c2, show S.1 38 22 = _ from c3]; exact ⟨_, rfl, rfl⟩
    · rw [rR_0_0, bS, rI_1_1, bS, rI_38_1, bS, b7, b8]; exact ⟨_, rfl, rfl⟩
    · rw [rI_0_9, bS, rI_38_9, bS, b5, b6]; exact ⟨_, rfl, rfl⟩
    · exact ⟨_, rfl, rfl⟩
  obtain ⟨r, k1, k2⟩ := key
  refine ⟨r, k1, ?_⟩
  unfold f_X11_count
  rw [kk_38, bS, k2, bS]
-- 17 morning
theorem cpy_at {n : Nat} {s o : Nat → Int32} : cpy n s o n = o n := if_neg (by omega)
theorem cpy_skip {n : Nat} {s o : Nat → Int32} (h : s n = o n) : cpy (n + 1) s o = cpy n s o := funext fun j => by
  show (if j < n + 1 then s j else o j) = if j < n then s j else o j
  by_cases h1 : j < n
  · rw [if_pos h1, if_pos (by omega)]
  · rw [if_neg h1]
    by_cases h2 : j = n
    · rw [if_pos (by omega), h2, h]
    · rw [if_neg (by omega)]
theorem uA_comm {S : mT} {a b : Nat} {f g : Nat → Int32} (h : a ≠ b) : uA (uA S a f) b g = uA (uA S b g) a f := by
  refine mT_ext rfl (fun r => ?_) rfl
  show (if r = b then g else if r = a then f else S.2.1 r) = (if r = a then f else if r = b then g else S.2.1 r)
  by_cases h1 : r = b
  · rw [if_pos h1, if_neg (show ¬ r = a from fun e => h (e.symm.trans h1)), if_pos h1]
  · rw [if_neg h1, if_neg h1]
theorem s_wake {S : mT} {n : Nat} {p : Nat → Bool} (hn : n ≤ 6) (hc : S.1 9 7 = nI (bN p n)) : f_X2_wake 9 (nI n) (mk S) = some (mk (uI (uI (uA (uA S 11 (cpy n (fun j => if p j = true then S.2.1 11 j + 1 else S.2.1 11 j) (S.2.1 11))) 12 (cpy n (fun j => if p j = true then S.2.1 12 j else S.2.1 12 j + 1) (S.2.1 12))) 9 7 0) 9 10 (S.1 9 10 + 1))) := by
  have hl := loopK (fun m k => f_X2_wake_L2 9 (nI n) m (nI k) (mk (uA (uA S 11 (cpy k (fun j => if p j = true then S.2.1 11 j + 1 else S.2.1 11 j) (S.2.1 11))) 12 (cpy k (fun j => if p j = true then S.2.1 12 j else S.2.1 12 j + 1) (S.2.1 12))))) n (mk (uA (uA S 11 (cpy n (fun j => if p j = true then S.2.1 11 j + 1 else S.2.1 11 j) (S.2.1 11))) 12 (cpy n (fun j => if p j = true then S.2.1 12 j else S.2.1 12 j + 1) (S.2.1 12)))) ?_ (fun m => ?he) mFuel (by unfold mFuel; omega)
  case he =>
    simp only [f_X2_wake_L2]
    rw [if_pos (show nI n ≤ nI n by rw [n_le (by omega) (by omega)]; omega)]
  · unfold f_X2_wake
    have h0 : uA (uA S 11 (cpy 0 (fun j => if p j = true then S.2.1 11 j + 1 else S.2.1 11 j) (S.2.1 11))) 12 (cpy 0 (fun j => if p j = true then S.2.1 12 j else S.2.1 12 j + 1) (S.2.1 12)) = S := by
      rw [cpy_0, cpy_0, uA_id, uA_id]
    rw [h0] at hl
    rw [show f_X2_wake_L2 9 (nI n) mFuel 0 (mk S) = _ from hl, bS, wI_9_7, bS, rI_9_10, bS, wI_9_10, bS]
    rfl
  · intro m k hk
    simp only [f_X2_wake_L2, f_X2_wake_J30]
    rw [if_neg (show ¬ nI n ≤ nI k by rw [n_le (by omega) (by omega)]; omega), rI_9_7, bS, uA_1, uA_1, hc, n_bit (bN_lt64 hn) (show k < 6 by omega), bN_bit]
    simp only [hk, decide_true, Bool.true_and, rR_9_1, rR_9_2, bS]
    by_cases hp : p k = true
    · rw [if_pos hp, if_pos rfl, s_at (aG_11 _) (by decide) (show k < 6 by omega), bS, s_put (aG_11 _) (by decide) (show k < 6 by omega), bS, aW_11, uA_n (show (11 : Nat) ≠ 12 by decide), uA_s, cpy_at, nI_1, uA_comm (a := 12) (b := 11) (by decide), uA_u]
      rw [← cpy_s (n := k) (s := fun j => if p j = true then S.2.1 11 j + 1 else S.2.1 11 j), cpy_skip (n := k) (s := fun j => if p j = true then S.2.1 12 j else S.2.1 12 j + 1) (by simp only [hp, if_true])]
      simp only [hp, if_true]
    · rw [if_neg hp, if_neg (by decide), s_at (aG_12 _) (by decide) (show k < 6 by omega), bS, s_put (aG_12 _) (by decide) (show k < 6 by omega), bS, aW_12, uA_s, cpy_at, nI_1, uA_u]
      rw [← cpy_s (n := k) (s := fun j => if p j = true then S.2.1 12 j else S.2.1 12 j + 1), cpy_skip (n := k) (s := fun j => if p j = true then S.2.1 11 j + 1 else S.2.1 11 j) (by simp only [if_neg hp])]
      simp only [if_neg hp]
def mW3 (S : mT) (f g h : Nat → Int32) : mT := uA (uA (uA S 42 f) 43 g) 41 h
theorem mW3_1 {S : mT} {f g h f' : Nat → Int32} : uA (mW3 S f g h) 42 f' = mW3 S f' g h := by
  unfold mW3
  rw [uA_comm (a := 41) (b := 42) (by decide), uA_comm (a := 43) (b := 42) (by decide), uA_u]
theorem mW3_2 {S : mT} {f g h f' : Nat → Int32} : uA (mW3 S f g h) 43 f' = mW3 S f f' h := by
  unfold mW3
  rw [uA_comm (a := 41) (b := 43) (by decide), uA_u]
theorem mW3_3 {S : mT} {f g h f' : Nat → Int32} : uA (mW3 S f g h) 41 f' = mW3 S f g f' := uA_u
theorem mW3_4 {S : mT} {f g h : Nat → Int32} : (mW3 S f g h).2.1 42 = f := rfl
theorem mW3_5 {S : mT} {f g h : Nat → Int32} : (mW3 S f g h).2.1 43 = g := rfl
theorem mW3_6 {S : mT} {f g h : Nat → Int32} : (mW3 S f g h).2.1 41 = h := rfl
theorem mW3_7 {S : mT} {f g h : Nat → Int32} : (mW3 S f g h).1 = S.1 := rfl
theorem r_morn {S : mT} {n : Nat} (hn : n ≤ 6) (e : S.1 38 3 = nI n) : f_X11_morning_L27 38 mFuel 0 0 (mk S) = some (sm (S.2.1 41) n, mk (mW3 S (cpy n (fun j => S.2.1 42 j + S.2.1 41 j) (S.2.1 42)) (cpy n (fun j => S.2.1 43 j + (1 - S.2.1 41 j)) (S.2.1 43)) (cpy n (fun _ => 0) (S.2.1 41)))) := by
  have hl := loopK (fun m k => f_X11_morning_L27 38 m (sm (S.2.1 41) k) (nI k) (mk (mW3 S (cpy k (fun j => S.2.1 42 j + S.2.1 41 j) (S.2.1 42)) (cpy k (fun j => S.2.1 43 j + (1 - S.2.1 41 j)) (S.2.1 43)) (cpy k (fun _ => 0) (S.2.1 41))))) n ((sm (S.2.1 41) n), (mk (mW3 S (cpy n (fun j => S.2.1 42 j + S.2.1 41 j) (S.2.1 42)) (cpy n (fun j => S.2.1 43 j + (1 - S.2.1 41 j)) (S.2.1 43)) (cpy n (fun _ => 0) (S.2.1 41))))) ?_ (fun m => ?he) mFuel (by unfold mFuel; omega)
  case he =>
    simp only [f_X11_morning_L27]
    rw [rI_38_3, bS, mW3_7, e, if_pos (show nI n ≤ nI n by rw [n_le (by omega) (by omega)]; omega)]
  · have h0 : mW3 S (cpy 0 (fun j => S.2.1 42 j + S.2.1 41 j) (S.2.1 42)) (cpy 0 (fun j => S.2.1 43 j + (1 - S.2.1 41 j)) (S.2.1 43)) (cpy 0 (fun _ => 0) (S.2.1 41)) = S := by
      unfold mW3
      rw [cpy_0, cpy_0, cpy_0, uA_id, uA_id, uA_id]
    rw [h0] at hl
    exact hl
  · intro m k hk
    have h6 : k < 6 := by omega
    simp only [f_X11_morning_L27]
    rw [rI_38_3, bS, mW3_7, e, if_neg (show ¬ nI n ≤ nI k by rw [n_le (by omega) (by omega)]; omega), rR_38_12, bS, aL_42 _ h6, bS, rR_38_11, bS, aL_41 _ h6, bS, mW3_4, mW3_6, cpy_at, cpy_at, aS_42 _ _ h6, bS, mW3_4, mW3_1]
    rw [rR_38_13, bS, aL_43 _ h6, bS, rR_38_11, bS, aL_41 _ h6, bS, mW3_5, mW3_6, cpy_at, cpy_at, aS_43 _ _ h6, bS, mW3_5, mW3_2]
    rw [rR_38_11, bS, aL_41 _ h6, bS, bS, mW3_6, cpy_at, aS_41 _ _ h6, bS, mW3_6, mW3_3, nI_1]
    rw [← cpy_s (n := k) (s := fun j => S.2.1 42 j + S.2.1 41 j), ← cpy_s (n := k) (s := fun j => S.2.1 43 j + (1 - S.2.1 41 j)), ← cpy_s (n := k) (s := fun _ => (0 : Int32))]
    rfl
def mrd (S : mT) (n : Nat) : mT := uI (mW3 S (cpy n (fun j => S.2.1 42 j + S.2.1 41 j) (S.2.1 42)) (cpy n (fun j => S.2.1 43 j + (1 - S.2.1 41 j)) (S.2.1 43)) (cpy n (fun _ => 0) (S.2.1 41))) 38 7 (S.1 38 7 + 1)
theorem r_morning {S : mT} {n x : Nat} (hn : n ≤ 6) (h0 : ¬ n = 0) (e : S.1 38 3 = nI n) (e2 : S.1 38 7 = nI x) (hx : x < 999) : f_X11_morning 38 (mk S) = some (sm (S.2.1 41) n, mk (mrd S n)) := by
  unfold f_X11_morning
  rw [kk_38, bS, s_lacks hn e, bS, if_neg h0, if_pos rfl, rI_38_7, bS, e2, if_neg (show ¬ nI x = (999 : Int32) by rw [show (999 : Int32) = nI 999 from rfl, n_eq (by omega) (by omega)]; omega), r_morn hn e, bS, rI_38_7, bS, wI_38_7, bS]
  rfl
def wkd (S : mT) (n : Nat) : mT := uI (uI (uA (uA S 11 (cpy n (fun j => if cvB S 41 j = true then S.2.1 11 j + 1 else S.2.1 11 j) (S.2.1 11))) 12 (cpy n (fun j => if cvB S 41 j = true then S.2.1 12 j else S.2.1 12 j + 1) (S.2.1 12))) 9 7 0) 9 10 (S.1 9 10 + 1)
theorem op_morning {N : Nat} {S : mT} (h : Inv N S) : ∃ r S1 S2, f_X10_morning 0 (mk S) = some (r, mk S1) ∧ f_X11_morning 38 (mk S1) = some (r, mk S2) ∧ Inv N S2 := by
  obtain ⟨n, t, p, L, ⟨a1, a2, a3, a4, a5, a6, a7⟩, ⟨b1, b2, b3, b4, b5, b6, b7, b8⟩, hP, hK, hN, hI⟩ := id h
  by_cases h0 : n = 0
  · refine ⟨-103, S, S, ?_, ?_, h⟩
    · unfold f_X10_morning
      rw [kk_0, bS, s_hasPort a1 b1, bS, if_pos h0, if_pos rfl]
    · unfold f_X11_morning
      rw [kk_38, bS, s_lacks a1 b2, bS, if_pos h0, if_neg (by decide)]
  · obtain ⟨g1, g2, g3, ⟨g4, g5⟩, g6, g7, g8, ⟨g9, x, hx, g10⟩, g11⟩ := hN
    have g9' : S.1 9 10 = S.1 38 7 := g9
    have g10' : S.1 38 7 = nI x := g10
    by_cases h9 : x = 999
    · subst h9
      refine ⟨-104, S, S, ?_, ?_, h⟩
      · unfold f_X10_morning
        rw [kk_0, bS, s_hasPort a1 b1, bS, if_neg h0, if_neg (by decide), rR_0_3, bS, rI_9_10, bS, g9', g10', if_neg (by decide)]
      · unfold f_X11_morning
        rw [kk_38, bS, s_lacks a1 b2, bS, if_neg h0, if_pos rfl, rI_38_7, bS, g10', if_pos (show nI 999 = (999 : Int32) from rfl)]
    · refine ⟨nI (pop (bN (cvB S 41) n)), wkd S n, mrd (wkd S n) n, ?_, ?_, ?_⟩
      rotate_left
      · rw [r_morning (S := wkd S n) a1 h0 b2 g10' (by omega)]
        exact congrArg some (Prod.ext (cov_sum a1 g4) rfl)
      · refine ⟨n, t, p, L, ⟨a1, a2, a3, a4, a5, a6, a7⟩, ⟨b1, b2, b3, b4, b5, b6, b7, b8⟩, hP, hK, ⟨g1, g2, ?_, ⟨?_, ?_⟩, g6, g7, g8, ⟨?_, x + 1, by omega, ?_⟩, g11⟩, hI⟩
        · intro i hi
          obtain ⟨k1, k2⟩ := g3 i hi
          show (i < n → cpy n (fun j => if cvB S 41 j = true then S.2.1 11 j + 1 else S.2.1 11 j) (S.2.1 11) i = cpy n (fun j => S.2.1 42 j + S.2.1 41 j) (S.2.1 42) i ∧ cpy n (fun j => if cvB S 41 j = true then S.2.1 12 j else S.2.1 12 j + 1) (S.2.1 12) i = cpy n (fun j => S.2.1 43 j + (1 - S.2.1 41 j)) (S.2.1 43) i) ∧ (n ≤ i → cpy n (fun j => if cvB S 41 j = true then S.2.1 11 j + 1 else S.2.1 11 j) (S.2.1 11) i = 0 ∧ cpy n (fun j => if cvB S 41 j = true then S.2.1 12 j else S.2.1 12 j + 1) (S.2.1 12) i = 0)
          refine ⟨fun hin => ?_, fun hin => ?_⟩
          · rw [cpy_lt hin, cpy_lt hin, cpy_lt hin, cpy_lt hin]
            obtain ⟨k3, k4⟩ := k1 hin
            rw [show S.2.1 11 i = S.2.1 42 i from k3, show S.2.1 12 i = S.2.1 43 i from k4]
            show (if decide (S.2.1 41 i = 1) = true then S.2.1 42 i + 1 else S.2.1 42 i) = _ ∧ (if decide (S.2.1 41 i = 1) = true then S.2.1 43 i else S.2.1 43 i + 1) = _
            rcases g4 i hin with g | g
            · rw [show S.2.1 41 i = 0 from g]
              exact ⟨(n_z _).symm, rfl⟩
            · rw [show S.2.1 41 i = 1 from g]
              exact ⟨rfl, (n_z _).symm⟩
          · show (if i < n then _ else S.2.1 11 i) = 0 ∧ (if i < n then _ else S.2.1 12 i) = 0
            rw [if_neg (by omega), if_neg (by omega)]
            exact k2 hin
        · intro i hi
          exact Or.inl (cpy_lt (s := fun _ => (0 : Int32)) (o := S.2.1 41) hi)
        · show (0 : Int32) = nI (bN (fun i => decide (cpy n (fun _ => 0) (S.2.1 41) i = 1)) n)
          rw [bN_congr (q := fun _ => false) (fun k hk => by rw [cpy_lt hk]; rfl)]
          have hz : ∀ m, bN (fun _ => false) m = 0 := fun m => by
            induction m with
            | zero => rfl
            | succ m ih => rw [bN, ih]; rfl
          rw [hz]
          rfl
        · show S.1 9 10 + 1 = S.1 38 7 + 1
          rw [g9']
        · show S.1 38 7 + 1 = _
          rw [g10', nI_1]
      · unfold f_X10_morning
        rw [kk_0, bS, s_hasPort a1 b1, bS, if_neg h0, if_neg (by decide), rR_0_3, bS, rI_9_10, bS, g9', g10', if_pos (show nI x < (999 : Int32) by rw [show (999 : Int32) = nI 999 from rfl, n_lt (by omega) (by omega)]; omega), bS, rI_9_7, bS, show S.1 9 7 = _ from g5, s_bc (bN_lt64 a1), bS, bS, rI_0_7, bS, kk_9, bS, b1, s_wake a1 g5, bS]
        rfl
