theorem n_add (a b : Nat) : nI a + nI b = nI (a + b) := (Int32.ofNat_add a b).symm
theorem n_mul (a b : Nat) : nI a * nI b = nI (a * b) := (Int32.ofNat_mul a b).symm
theorem n_3 (c : Nat) : (3 : Int32) * nI c = nI (3 * c) := n_mul 3 c
theorem n_2 (c : Nat) : nI c + (2 : Int32) = nI (c + 2) := n_add c 2
theorem s_colm {α : Type} (v : Int32) (A B : α) : (if v = -1 then A else if ¬ (0 ≤ v.toInt ∧ v.toInt ≤ 5) then B else A) = if -1 ≤ v.toInt ∧ v.toInt ≤ 5 then A else B := by
  by_cases h : v = -1
  · rw [if_pos h, h, if_pos (show -1 ≤ (-1 : Int32).toInt ∧ (-1 : Int32).toInt ≤ 5 by decide)]
  · rw [if_neg h]
    have h2 : v.toInt ≠ -1 := fun e => h ((eq_T _ _).mpr e)
    by_cases h3 : 0 ≤ v.toInt ∧ v.toInt ≤ 5
    · rw [if_neg (show ¬ ¬ (0 ≤ v.toInt ∧ v.toInt ≤ 5) by omega), if_pos (show -1 ≤ v.toInt ∧ v.toInt ≤ 5 by omega)]
    · rw [if_pos h3, if_neg (show ¬ (-1 ≤ v.toInt ∧ v.toInt ≤ 5) by omega)]
theorem uA_s {S : mT} {a : Nat} {f : Nat → Int32} : (uA S a f).2.1 a = f := if_pos rfl
theorem uA_u {S : mT} {a : Nat} {f g : Nat → Int32} : uA (uA S a f) a g = uA S a g := by
  refine Prod.ext rfl (Prod.ext (funext fun a' => ?_) rfl)
  show (if a' = a then g else if a' = a then f else S.2.1 a') = (if a' = a then g else S.2.1 a')
  by_cases h : a' = a
  · rw [if_pos h, if_pos h]
  · rw [if_neg h, if_neg h, if_neg h]
theorem uI_s {S : mT} {o k : Nat} {x : Int32} : (uI S o k x).1 o k = x := if_pos ⟨rfl, rfl⟩
theorem uI_u {S : mT} {o k : Nat} {x y : Int32} : uI (uI S o k x) o k y = uI S o k y := by
  refine Prod.ext (funext fun o' => funext fun k' => ?_) rfl
  show (if o' = o ∧ k' = k then y else if o' = o ∧ k' = k then x else S.1 o' k') = (if o' = o ∧ k' = k then y else S.1 o' k')
  by_cases h : o' = o ∧ k' = k
  · rw [if_pos h, if_pos h]
  · rw [if_neg h, if_neg h, if_neg h]
-- 6 move
def anyB (p : Nat → Bool) : Nat → Bool
  | 0 => false
  | n + 1 => anyB p n || p n
theorem anyB_iff {p : Nat → Bool} : ∀ {n : Nat}, anyB p n = true ↔ ∃ k, k < n ∧ p k = true
  | 0 => ⟨fun h => absurd h Bool.false_ne_true, fun ⟨k, hk, _⟩ => absurd hk (by omega)⟩
  | n + 1 => by
    rw [anyB, Bool.or_eq_true, anyB_iff]
    refine ⟨fun h => ?_, fun ⟨k, hk, hp⟩ => ?_⟩
    · rcases h with ⟨k, hk, hp⟩ | h
      · exact ⟨k, by omega, hp⟩
      · exact ⟨n, by omega, h⟩
    · by_cases hkn : k = n
      · subst hkn; exact Or.inr hp
      · exact Or.inl ⟨k, by omega, hp⟩
theorem fst_any {β : Type} (p : Nat → Bool) (n : Nat) (a z : β) : (match fst? p 0 n with | some _ => a | none => z) = if anyB p n = true then a else z := by
  cases h : fst? p 0 n with
  | none =>
    rw [if_neg]
    intro hz
    obtain ⟨k, hk, hp⟩ := anyB_iff.mp hz
    have := fst?_none h k (by omega) (by omega)
    rw [hp] at this
    exact absurd this (by decide)
  | some j =>
    obtain ⟨h1, h2, h3, h4⟩ := fst?_some h
    rw [if_pos (anyB_iff.mpr ⟨j, by omega, h3⟩)]
theorem it_any (p : Nat → Bool) : ∀ n, it (fun k a => if a = 0 then (0 : Int32) else if p k = true then 0 else 1) n 1 = if anyB p n = true then 0 else 1
  | 0 => rfl
  | n + 1 => by
    rw [it, it_any p n, anyB]
    by_cases h : anyB p n = true
    · rw [if_pos h, if_pos rfl, if_pos (by rw [h]; rfl)]
    · rw [if_neg h, if_neg (by decide)]
      have h' : anyB p n = false := by simpa using h
      rw [h', Bool.false_or]
/-- another of n lies on y -/
def tk (f : Nat → Int32) (i : Nat) (y : Int32) : Nat → Bool := fun k => decide (¬ k = i ∧ f k = y)
theorem n_le {a b : Nat} (ha : a < 2 ^ 31) (hb : b < 2 ^ 31) : nI a ≤ nI b ↔ a ≤ b := by rw [le_T, nT ha, nT hb]; omega
theorem n_lt {a b : Nat} (ha : a < 2 ^ 31) (hb : b < 2 ^ 31) : nI a < nI b ↔ a < b := by rw [lt_T, nT ha, nT hb]; omega
theorem n_eq {a b : Nat} (ha : a < 2 ^ 31) (hb : b < 2 ^ 31) : nI a = nI b ↔ a = b := by rw [eq_T, nT ha, nT hb]; omega
theorem s_taken {S : mT} {n : Nat} (hn : n ≤ 6) (e : S.1 0 7 = nI n) (y : Int32) {i : Nat} (hi : i < 6) : f_X10_isTakenByAnother 0 y (nI i) (mk S) = some (if anyB (tk (S.2.1 10) i y) n = true then 1 else 0) := by
  have hl := (loopR (fun m k => f_X10_isTakenByAnother_L2 0 y (nI i) (mk S) m (nI k)) (tk (S.2.1 10) i y) (fun _ => Sum.inl 1) (Sum.inr ()) n 0 mFuel ?_ ?_ (by unfold mFuel; omega)).trans (congrArg some (fst_any (tk (S.2.1 10) i y) n (Sum.inl (1 : Int32)) (Sum.inr ()))) 
  · simp only [f_X10_isTakenByAnother]
    rw [show f_X10_isTakenByAnother_L2 0 y (nI i) (mk S) mFuel 0 = _ from hl]
    by_cases h : anyB (tk (S.2.1 10) i y) n = true
    · rw [if_pos h, if_pos h]; rfl
    · rw [if_neg h, if_neg h]; rfl
  · intro m k _ hk
    simp only [f_X10_isTakenByAnother_L2, f_X10_isTakenByAnother_J32, rR_0_0, rR_0_1, rR_0_2, rR_0_3, rR_0_4, rR_0_5, rR_0_6, rR_1_0, rR_3_0, rR_3_1, rR_3_2, rR_3_3, rR_9_0, rR_9_1, rR_9_2, rR_9_3, rR_9_4, rR_9_5, rR_9_6, rR_16_0, rR_16_1, rR_16_2, rR_20_0, rR_20_1, rR_20_2, rR_20_3, rR_20_4, rR_20_5, rR_20_6, rR_27_0, rR_27_1, rR_27_2, rR_31_0, rR_31_1, rR_31_2, rR_31_3, rR_31_4, kk_0, kk_1, kk_3, kk_9, kk_16, kk_20, kk_27, kk_31, rI_0_7, rI_0_8, rI_0_9, rI_0_10, rI_1_1, rI_3_4, rI_3_5, rI_3_6, rI_3_7, rI_9_7, rI_9_8, rI_9_9, rI_9_10, rI_9_11, rI_16_3, rI_20_7, rI_20_8, rI_20_9, rI_20_10, rI_20_11, rI_27_3, rI_31_5, rI_31_6, bS, e, s_at (aG_10 S) (by decide) (show k < 6 by omega), nI_1]
    rw [if_neg (show ¬ nI n ≤ nI k by rw [n_le (by omega) (by omega)]; omega)]
    by_cases h1 : k = i
    · rw [if_pos (congrArg nI h1), if_neg (show ¬ tk (S.2.1 10) i y k = true by unfold tk; simp [h1])]
    · rw [if_neg (show ¬ nI k = nI i by rw [n_eq (by omega) (by omega)]; exact h1)]
      by_cases h2 : S.2.1 10 k = y
      · rw [if_pos h2, if_pos (show tk (S.2.1 10) i y k = true by unfold tk; simp [h1, h2])]
      · rw [if_neg h2, if_neg (show ¬ tk (S.2.1 10) i y k = true by unfold tk; simp [h2])]
  · intro m
    simp only [f_X10_isTakenByAnother_L2, rR_0_0, rR_0_1, rR_0_2, rR_0_3, rR_0_4, rR_0_5, rR_0_6, rR_1_0, rR_3_0, rR_3_1, rR_3_2, rR_3_3, rR_9_0, rR_9_1, rR_9_2, rR_9_3, rR_9_4, rR_9_5, rR_9_6, rR_16_0, rR_16_1, rR_16_2, rR_20_0, rR_20_1, rR_20_2, rR_20_3, rR_20_4, rR_20_5, rR_20_6, rR_27_0, rR_27_1, rR_27_2, rR_31_0, rR_31_1, rR_31_2, rR_31_3, rR_31_4, kk_0, kk_1, kk_3, kk_9, kk_16, kk_20, kk_27, kk_31, rI_0_7, rI_0_8, rI_0_9, rI_0_10, rI_1_1, rI_3_4, rI_3_5, rI_3_6, rI_3_7, rI_9_7, rI_9_8, rI_9_9, rI_9_10, rI_9_11, rI_16_3, rI_20_7, rI_20_8, rI_20_9, rI_20_10, rI_20_11, rI_27_3, rI_31_5, rI_31_6, bS, e, Nat.zero_add]
    rw [if_pos (show nI n ≤ nI n by rw [n_le (by omega) (by omega)]; omega)]
theorem anyB_congr {p q : Nat → Bool} : ∀ {n : Nat}, (∀ k, k < n → p k = q k) → anyB p n = anyB q n
  | 0, _ => rfl
  | n + 1, h => by rw [anyB, anyB, anyB_congr (fun k hk => h k (by omega)), h n (by omega)]
theorem k_lone : ∀ i : Fin 6, ((1 : Int32) <<< (nI i.val &&& 31)) = nI (2 ^ i.val) := by decide +kernel
theorem n_lone {i : Nat} (hi : i < 6) : ((1 : Int32) <<< (nI i &&& 31)) = nI (2 ^ i) := k_lone ⟨i, hi⟩
theorem pow64 {i : Nat} (hi : i < 6) : 2 ^ i < 64 := Nat.lt_of_le_of_lt (Nat.pow_le_pow_right (by decide) (show i ≤ 5 by omega)) (by decide)
theorem two_bit (i k : Nat) : (2 ^ i).testBit k = decide (i = k) := Nat.testBit_two_pow
