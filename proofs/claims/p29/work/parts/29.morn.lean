def cnt (p : Nat → Bool) : Nat → Nat
  | 0 => 0
  | n + 1 => cnt p n + if p n then 1 else 0
theorem k_pop : ∀ (n : Fin 6) (a : Fin 64), a.val < 2 ^ n.val → pop (a.val + 2 ^ n.val) = pop a.val + 1 := by decide +kernel
theorem pop_bN (p : Nat → Bool) : ∀ {n : Nat}, n ≤ 6 → pop (bN p n) = cnt p n
  | 0, _ => by show pop 0 = 0; decide
  | n + 1, h => by
    rw [bN, cnt]
    by_cases hp : p n = true
    · rw [if_pos hp, if_pos hp, k_pop ⟨n, by omega⟩ ⟨bN p n, bN_lt64 (by omega)⟩ (bN_lt p n), pop_bN p (by omega)]
    · rw [if_neg hp, if_neg hp, Nat.add_zero, pop_bN p (by omega)]
      rfl
def sm (f : Nat → Int32) (n : Nat) : Int32 := it (fun k x => x + f k) n 0
theorem sm_cnt {f : Nat → Int32} : ∀ {n : Nat}, (∀ i, i < n → f i = 0 ∨ f i = 1) → sm f n = nI (cnt (fun i => decide (f i = 1)) n)
  | 0, _ => rfl
  | n + 1, h => by
    show sm f n + f n = _
    rw [sm_cnt (fun i hi => h i (by omega)), cnt]
    rcases h n (by omega) with h1 | h1
    · rw [h1, show (0 : Int32) = nI 0 from rfl, n_add]; rfl
    · rw [h1, show (1 : Int32) = nI 1 from rfl, n_add]; rfl
theorem sm_congr {f g : Nat → Int32} {n : Nat} (h : ∀ i, i < n → f i = g i) : sm f n = sm g n := it_congr (fun k b hk => by rw [h k hk])
theorem n_z (x : Int32) : x + 0 = x := Int32.add_zero x
theorem sm_zero {f : Nat → Int32} {n : Nat} : ∀ {m : Nat}, n ≤ m → (∀ i, n ≤ i → i < m → f i = 0) → sm f m = sm f n
  | 0, h, _ => by rw [show n = 0 by omega]
  | m + 1, h, hz => by
    by_cases he : n = m + 1
    · rw [he]
    · show sm f m + f m = _
      rw [hz m (by omega) (by omega), sm_zero (n := n) (m := m) (by omega) (fun i h1 h2 => hz i h1 (by omega)), n_z]
theorem s_sumC {w : mW} {a n : Nat} {f : Nat → Int32} (h : aG w (some a) = some (n, f)) (hn : n < 1000) : f_X10_sum (some a) w = some (sm f n) := by
  have hl := loopG (fun m x k => f_X10_sum_L4 (some a) w m x (nI k)) n (fun k x => x + f k) id 0 ?_ ?_ mFuel (by unfold mFuel; omega)
  · unfold f_X10_sum
    rw [show f_X10_sum_L4 (some a) w mFuel 0 0 = _ from hl, bS]
    rfl
  · intro m k x hk
    simp only [f_X10_sum_L4, oC_s, aN_of h, bS]
    rw [if_neg (show ¬ nI n ≤ nI k by rw [n_le (by omega) (by omega)]; omega), aL_of h (by omega) hk, bS, nI_1]
  · intro m x
    simp only [f_X10_sum_L4, oC_s, aN_of h, bS]
    rw [if_pos (show nI n ≤ nI n by rw [n_le (by omega) (by omega)]; omega)]
    rfl
-- 19 count
theorem ite2 {α : Type} {c : Prop} [Decidable c] {a b a' b' : Option α} (h1 : ∃ r, a = some r ∧ a' = some r) (h2 : ∃ r, b = some r ∧ b' = some r) : ∃ r, (if c then a else b) = some r ∧ (if c then a' else b') = some r := by
  by_cases h : c
  · rw [if_pos h, if_pos h]; exact h1
  · rw [if_neg h, if_neg h]; exact h2
theorem cov_sum {S : mT} {n : Nat} (hn : n ≤ 6) (h : ∀ i, i < n → S.2.1 41 i = 0 ∨ S.2.1 41 i = 1) : sm (S.2.1 41) n = nI (pop (bN (cvB S 41) n)) := by
  rw [pop_bN _ hn, sm_cnt h]
  rfl
-- 17 morning
theorem cpy_at {n : Nat} {s o : Nat → Int32} : cpy n s o n = o n := if_neg (by omega)
theorem cpy_skip {n : Nat} {s o : Nat → Int32} (h : s n = o n) : cpy (n + 1) s o = cpy n s o := funext fun j => by
  show (if j < n + 1 then s j else o j) = if j < n then s j else o j
  by_cases h1 : j < n
  · rw [if_pos h1, if_pos (by omega)]
  · rw [if_neg h1]
    by_cases h2 : j = n
    · rw [if_pos (by omega), h2, h]
    · rw [if_neg (by omega)]
theorem uA_comm {S : mT} {a b : Nat} {f g : Nat → Int32} (h : a ≠ b) : uA (uA S a f) b g = uA (uA S b g) a f := by
  refine mT_ext rfl (fun r => ?_) rfl
  show (if r = b then g else if r = a then f else S.2.1 r) = (if r = a then f else if r = b then g else S.2.1 r)
  by_cases h1 : r = b
  · rw [if_pos h1, if_neg (show ¬ r = a from fun e => h (e.symm.trans h1)), if_pos h1]
  · rw [if_neg h1, if_neg h1]
theorem s_wake {S : mT} {n : Nat} {p : Nat → Bool} (hn : n ≤ 6) (hc : S.1 9 7 = nI (bN p n)) : f_X2_wake 9 (nI n) (mk S) = some (mk (uI (uI (uA (uA S 11 (cpy n (fun j => if p j = true then S.2.1 11 j + 1 else S.2.1 11 j) (S.2.1 11))) 12 (cpy n (fun j => if p j = true then S.2.1 12 j else S.2.1 12 j + 1) (S.2.1 12))) 9 7 0) 9 10 (S.1 9 10 + 1))) := by
  have hl := loopK (fun m k => f_X2_wake_L2 9 (nI n) m (nI k) (mk (uA (uA S 11 (cpy k (fun j => if p j = true then S.2.1 11 j + 1 else S.2.1 11 j) (S.2.1 11))) 12 (cpy k (fun j => if p j = true then S.2.1 12 j else S.2.1 12 j + 1) (S.2.1 12))))) n (mk (uA (uA S 11 (cpy n (fun j => if p j = true then S.2.1 11 j + 1 else S.2.1 11 j) (S.2.1 11))) 12 (cpy n (fun j => if p j = true then S.2.1 12 j else S.2.1 12 j + 1) (S.2.1 12)))) ?_ (fun m => ?he) mFuel (by unfold mFuel; omega)
  case he =>
    simp only [f_X2_wake_L2]
    rw [if_pos (show nI n ≤ nI n by rw [n_le (by omega) (by omega)]; omega)]
  · unfold f_X2_wake
    have h0 : uA (uA S 11 (cpy 0 (fun j => if p j = true then S.2.1 11 j + 1 else S.2.1 11 j) (S.2.1 11))) 12 (cpy 0 (fun j => if p j = true then S.2.1 12 j else S.2.1 12 j + 1) (S.2.1 12)) = S := by
      rw [cpy_0, cpy_0, uA_id, uA_id]
    rw [h0] at hl
    rw [show f_X2_wake_L2 9 (nI n) mFuel 0 (mk S) = _ from hl, bS, wI_9_7, bS, rI_9_10, bS, wI_9_10, bS]
    rfl
  · intro m k hk
    simp only [f_X2_wake_L2, f_X2_wake_J30]
    rw [if_neg (show ¬ nI n ≤ nI k by rw [n_le (by omega) (by omega)]; omega), rI_9_7, bS, uA_1, uA_1, hc, n_bit (bN_lt64 hn) (show k < 6 by omega), bN_bit]
    simp only [hk, decide_true, Bool.true_and, rR_9_1, rR_9_2, bS]
    by_cases hp : p k = true
    · rw [if_pos hp, if_pos rfl, s_at (aG_11 _) (by decide) (show k < 6 by omega), bS, s_put (aG_11 _) (by decide) (show k < 6 by omega), bS, aW_11, uA_n (show (11 : Nat) ≠ 12 by decide), uA_s, cpy_at, nI_1, uA_comm (a := 12) (b := 11) (by decide), uA_u]
      rw [← cpy_s (n := k) (s := fun j => if p j = true then S.2.1 11 j + 1 else S.2.1 11 j), cpy_skip (n := k) (s := fun j => if p j = true then S.2.1 12 j else S.2.1 12 j + 1) (by simp only [hp, if_true])]
      simp only [hp, if_true]
    · rw [if_neg hp, if_neg (by decide), s_at (aG_12 _) (by decide) (show k < 6 by omega), bS, s_put (aG_12 _) (by decide) (show k < 6 by omega), bS, aW_12, uA_s, cpy_at, nI_1, uA_u]
      rw [← cpy_s (n := k) (s := fun j => if p j = true then S.2.1 12 j else S.2.1 12 j + 1), cpy_skip (n := k) (s := fun j => if p j = true then S.2.1 11 j + 1 else S.2.1 11 j) (by simp only [if_neg hp])]
      simp only [if_neg hp]
