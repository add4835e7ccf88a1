-- crowds: sleepers as bits, a number below 64
def bN (p : Nat → Bool) : Nat → Nat
  | 0 => 0
  | n + 1 => bN p n + (if p n then 2 ^ n else 0)
theorem bN_lt (p : Nat → Bool) : ∀ n, bN p n < 2 ^ n
  | 0 => by show 0 < 1; decide
  | n + 1 => by
    have := bN_lt p n
    rw [bN, Nat.pow_succ]
    split <;> omega
theorem bN_lt64 {p : Nat → Bool} {n : Nat} (h : n ≤ 6) : bN p n < 64 := Nat.lt_of_lt_of_le (bN_lt p n) (Nat.pow_le_pow_right (by decide) h)
theorem bN_congr {p q : Nat → Bool} : ∀ {n : Nat}, (∀ k, k < n → p k = q k) → bN p n = bN q n
  | 0, _ => rfl
  | n + 1, h => by rw [bN, bN, bN_congr (fun k hk => h k (by omega)), h n (by omega)]
theorem bN_bit (p : Nat → Bool) : ∀ (n i : Nat), (bN p n).testBit i = (decide (i < n) && p i)
  | 0, i => by simp [bN]
  | n + 1, i => by
    have hl := bN_lt p n
    have ih := bN_bit p n i
    rw [bN]
    by_cases hp : p n = true
    · rw [if_pos hp, Nat.add_comm, ]
      by_cases hi : i = n
      · subst hi
        rw [Nat.testBit_two_pow_add_eq, ih]
        simp [hp]
      · by_cases hlt : i < n
        · rw [Nat.testBit_two_pow_add_gt hlt, ih]
          simp [hlt, show i < n + 1 by omega]
        · have h2 : (2 ^ n + bN p n).testBit i = false := by
            refine Nat.testBit_lt_two_pow (Nat.lt_of_lt_of_le (?_ : _ < 2 ^ (n + 1)) (Nat.pow_le_pow_right (by decide) (by omega)))
            rw [Nat.pow_succ]; omega
          rw [h2]
          simp [show ¬ i < n + 1 by omega]
    · have hp' : p n = false := by simpa using hp
      rw [if_neg hp, Nat.add_zero, ih]
      by_cases hi : i = n
      · subst hi; simp [hp']
      · by_cases hlt : i < n
        · simp [hlt, show i < n + 1 by omega]
        · simp [hlt, show ¬ i < n + 1 by omega]
def pop (a : Nat) : Nat := a % 2 + a / 2 % 2 + a / 4 % 2 + a / 8 % 2 + a / 16 % 2 + a / 32 % 2
theorem fin_of {n : Nat} {P : Nat → Prop} (h : ∀ a : Fin n, P a.val) {a : Nat} (ha : a < n) : P a := h ⟨a, ha⟩
theorem k_or : ∀ (n : Fin 6) (a : Fin 64), a.val < 2 ^ n.val → nI a.val ||| ((1 : Int32) <<< (nI n.val &&& 31)) = nI (a.val + 2 ^ n.val) := by decide +kernel
theorem n_or {n a : Nat} (hn : n < 6) (ha : a < 2 ^ n) : nI a ||| ((1 : Int32) <<< (nI n &&& 31)) = nI (a + 2 ^ n) :=
  k_or ⟨n, hn⟩ ⟨a, Nat.lt_of_lt_of_le ha (Nat.le_trans (Nat.pow_le_pow_right (by decide) (show n ≤ 6 by omega)) (by decide))⟩ ha
theorem k_full : ∀ n : Fin 7, ((1 : Int32) <<< (nI n.val &&& 31)) - 1 = nI (2 ^ n.val - 1) := by decide +kernel
theorem n_full {n : Nat} (hn : n ≤ 6) : ((1 : Int32) <<< (nI n &&& 31)) - 1 = nI (2 ^ n - 1) := k_full ⟨n, by omega⟩
theorem k_bit : ∀ (a : Fin 64) (k : Fin 6), (nI a.val >>> (nI k.val &&& 31)) &&& 1 = if a.val.testBit k.val then 1 else 0 := by decide +kernel
theorem n_bit {a k : Nat} (ha : a < 64) (hk : k < 6) : (nI a >>> (nI k &&& 31)) &&& 1 = if a.testBit k then 1 else 0 := k_bit ⟨a, ha⟩ ⟨k, hk⟩
/-- a without b -/
def wo (a b : Nat) : Nat := a &&& (63 - b)
theorem k_wo : ∀ (a b : Fin 64), nI a.val &&& (nI b.val ^^^ (-1)) = nI (wo a.val b.val) := by decide +kernel
theorem n_wo {a b : Nat} (ha : a < 64) (hb : b < 64) : nI a &&& (nI b ^^^ (-1)) = nI (wo a b) := k_wo ⟨a, ha⟩ ⟨b, hb⟩
theorem wo_le (a b : Nat) : wo a b ≤ a := Nat.and_le_left
theorem k_wobit : ∀ (a b : Fin 64) (k : Fin 6), (wo a.val b.val).testBit k.val = (a.val.testBit k.val && !b.val.testBit k.val) := by decide +kernel
theorem wo_bit {a b k : Nat} (ha : a < 64) (hb : b < 64) (hk : k < 6) : (wo a b).testBit k = (a.testBit k && !b.testBit k) := k_wobit ⟨a, ha⟩ ⟨b, hb⟩ ⟨k, hk⟩
theorem n_and (a b : Nat) : nI a &&& nI b = nI (a &&& b) := by
  apply Int32.toBitVec_inj.mp
  show BitVec.ofNat 32 a &&& BitVec.ofNat 32 b = BitVec.ofNat 32 (a &&& b)
  rw [BitVec.ofNat_and]
theorem n_or2 (a b : Nat) : nI a ||| nI b = nI (a ||| b) := by
  apply Int32.toBitVec_inj.mp
  show BitVec.ofNat 32 a ||| BitVec.ofNat 32 b = BitVec.ofNat 32 (a ||| b)
  rw [BitVec.ofNat_or]
theorem and64 {a b : Nat} (ha : a < 64) : a &&& b < 64 := Nat.lt_of_le_of_lt Nat.and_le_left ha
theorem or64 {a b : Nat} (ha : a < 64) (hb : b < 64) : a ||| b < 64 := Nat.or_lt_two_pow (n := 6) ha hb
/-- two crowds are one, if their bits are -/
theorem k_ext : ∀ (a b : Fin 64), (∀ k : Fin 6, a.val.testBit k.val = b.val.testBit k.val) → a = b := by decide +kernel
theorem n_ext {a b : Nat} (ha : a < 64) (hb : b < 64) (h : ∀ k, k < 6 → a.testBit k = b.testBit k) : a = b := congrArg Fin.val (k_ext ⟨a, ha⟩ ⟨b, hb⟩ (fun k => h k.val k.isLt))
theorem k_bc : ∀ a : Fin 64, f_J6_bitCount_0f7a4 (nI a.val) [] = some (nI (pop a.val)) := by decide +kernel
theorem s_bc {a : Nat} (ha : a < 64) (w : mW) : f_J6_bitCount_0f7a4 (nI a) w = some (nI (pop a)) := k_bc ⟨a, ha⟩
theorem pop_le (a : Nat) : pop a ≤ 6 := by unfold pop; omega
-- a loop that gathers bits
theorem it_bits (p : Nat → Bool) {n : Nat} (hn : n ≤ 6) : it (fun k a => if p k then a ||| ((1 : Int32) <<< (nI k &&& 31)) else a) n 0 = nI (bN p n) := by
  induction n with
  | zero => rfl
  | succ n ih =>
    rw [it, ih (by omega), bN]
    by_cases hp : p n = true
    · rw [if_pos hp, if_pos hp, n_or (by omega) (bN_lt p n)]
    · rw [if_neg hp, if_neg hp, Nat.add_zero]
