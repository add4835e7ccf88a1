-- loops
def it {α : Type} (g : Nat → α → α) : Nat → α → α
  | 0, a => a
  | n + 1, a => g n (it g n a)
theorem it_congr {α : Type} {g g2 : Nat → α → α} : ∀ {n : Nat} {a : α}, (∀ k b, k < n → g k b = g2 k b) → it g n a = it g2 n a
  | 0, _, _ => rfl
  | n + 1, a, h => by
    rw [it, it, it_congr (fun k b hk => h k b (by omega)), h n _ (by omega)]
theorem it_inv {α : Type} {g : Nat → α → α} (I : Nat → α → Prop) : ∀ {n : Nat} {a : α}, I 0 a → (∀ k b, k < n → I k b → I (k + 1) (g k b)) → I n (it g n a)
  | 0, _, h, _ => h
  | n + 1, a, h, hs => hs n _ (by omega) (it_inv I h (fun k b hk => hs k b (by omega)))
theorem loopF {α β : Type} (F : Nat → α → Nat → Option β) (n : Nat) (g : Nat → α → α) (r : α → β) (I : Nat → α → Prop) (a0 : α) (h0 : I 0 a0)
    (hs : ∀ m k a, k < n → I k a → F (m + 1) a k = F m (g k a) (k + 1) ∧ I (k + 1) (g k a)) (he : ∀ m a, I n a → F (m + 1) a n = some (r a)) (m : Nat) (hm : n < m) : F m a0 0 = some (r (it g n a0)) ∧ I n (it g n a0) := by
  have key : ∀ k, k ≤ n → (∀ m, F (m + k) a0 0 = F m (it g k a0) k) ∧ I k (it g k a0) := by
    intro k
    induction k with
    | zero => exact fun _ => ⟨fun m => rfl, h0⟩
    | succ k ih =>
      intro hk
      obtain ⟨h1, h2⟩ := ih (by omega)
      refine ⟨fun m => ?_, (hs 0 k _ (by omega) h2).2⟩
      rw [show m + (k + 1) = (m + 1) + k by omega, h1 (m + 1), (hs m k _ (by omega) h2).1]
      rfl
  obtain ⟨h1, h2⟩ := key n (Nat.le_refl n)
  refine ⟨?_, h2⟩
  obtain ⟨q, rfl⟩ : ∃ q, m = (q + 1) + n := ⟨m - n - 1, by omega⟩
  rw [h1, he q _ h2]
/-- the same, with nothing to keep -/
theorem loopG {α β : Type} (F : Nat → α → Nat → Option β) (n : Nat) (g : Nat → α → α) (r : α → β) (a0 : α)
    (hs : ∀ m k a, k < n → F (m + 1) a k = F m (g k a) (k + 1)) (he : ∀ m a, F (m + 1) a n = some (r a)) (m : Nat) (hm : n < m) : F m a0 0 = some (r (it g n a0)) :=
  (loopF F n g r (fun _ _ => True) a0 trivial (fun m k a hk _ => ⟨hs m k a hk, trivial⟩) (fun m a _ => he m a) m hm).1
/-- the first k below n with p, seen from k0 on -/
def fst? (p : Nat → Bool) : Nat → Nat → Option Nat
  | _, 0 => none
  | k, n + 1 => if p k then some k else fst? p (k + 1) n
theorem loopR {β : Type} (F : Nat → Nat → Option β) (p : Nat → Bool) (rv : Nat → β) (z : β) : ∀ (n k m : Nat),
    (∀ m j, k ≤ j → j < k + n → F (m + 1) j = if p j then some (rv j) else F m (j + 1)) → (∀ m, F (m + 1) (k + n) = some z) → n < m → F m k = some (match fst? p k n with | some j => rv j | none => z)
  | 0, k, m, hs, he, hm => by
    obtain ⟨q, rfl⟩ : ∃ q, m = q + 1 := ⟨m - 1, by omega⟩
    exact he q
  | n + 1, k, m, hs, he, hm => by
    obtain ⟨q, rfl⟩ : ∃ q, m = q + 1 := ⟨m - 1, by omega⟩
    rw [hs q k (Nat.le_refl k) (by omega), fst?]
    by_cases hp : p k = true
    · rw [if_pos hp, if_pos hp]
    · rw [if_neg hp, if_neg hp]
      exact loopR F p rv z n (k + 1) q (fun m j h1 h2 => hs m j (by omega) (by omega)) (fun m => by rw [show k + 1 + n = k + (n + 1) by omega]; exact he m) (by omega)
theorem fst?_congr {p q : Nat → Bool} : ∀ (n k : Nat), (∀ j, k ≤ j → j < k + n → p j = q j) → fst? p k n = fst? q k n
  | 0, _, _ => rfl
  | n + 1, k, h => by
    rw [fst?, fst?, h k (Nat.le_refl k) (by omega), fst?_congr n (k + 1) (fun j h1 h2 => h j (by omega) (by omega))]
theorem fst?_some {p : Nat → Bool} : ∀ {n k j : Nat}, fst? p k n = some j → k ≤ j ∧ j < k + n ∧ p j = true ∧ ∀ i, k ≤ i → i < j → p i = false
  | 0, k, j, h => by cases h
  | n + 1, k, j, h => by
    rw [fst?] at h
    split at h
    · rename_i hp
      cases h
      exact ⟨Nat.le_refl k, by omega, hp, fun i h1 h2 => by omega⟩
    · rename_i hp
      obtain ⟨h1, h2, h3, h4⟩ := fst?_some h
      refine ⟨by omega, by omega, h3, fun i g1 g2 => ?_⟩
      by_cases hi : i = k
      · subst hi
        simpa using hp
      · exact h4 i (by omega) g2
theorem fst?_none {p : Nat → Bool} : ∀ {n k : Nat}, fst? p k n = none → ∀ i, k ≤ i → i < k + n → p i = false
  | 0, k, h, i, h1, h2 => by omega
  | n + 1, k, h, i, h1, h2 => by
    rw [fst?] at h
    split at h
    · cases h
    · rename_i hp
      by_cases hi : i = k
      · subst hi
        simpa using hp
      · exact fst?_none h i (by omega) (by omega)
-- numbers
theorem lt_T (a b : Int32) : a < b ↔ a.toInt < b.toInt := Int32.lt_iff_toInt_lt
theorem le_T (a b : Int32) : a ≤ b ↔ a.toInt ≤ b.toInt := Int32.le_iff_toInt_le
theorem eq_T (a b : Int32) : a = b ↔ a.toInt = b.toInt := Int32.toInt_inj.symm
theorem nT {n : Nat} (h : n < 2 ^ 31) : (nI n).toInt = (n : Int) := nI_toInt h
theorem rngT (x : Int32) : -2147483648 ≤ x.toInt ∧ x.toInt < 2147483648 := ⟨Int32.le_toInt x, Int32.toInt_lt x⟩
theorem nI_of' {x : Int32} (h : 0 ≤ x.toInt) : ∃ j : Nat, j < 2 ^ 31 ∧ x = nI j ∧ x.toInt = (j : Int) := by
  obtain ⟨j, h1, h2⟩ := nI_of (x := x) (fun z => by rw [lt_T] at z; have : (0 : Int32).toInt = 0 := rfl; omega)
  exact ⟨j, h1, h2, by rw [h2]; exact nI_toInt h1⟩
theorem lg_lt {x y : Int64} : lg_cmp x y < 0 ↔ x < y := by
  unfold lg_cmp
  by_cases h1 : y < x
  · rw [if_pos h1]
    refine ⟨fun h => absurd h (by decide), fun h => ?_⟩
    rw [Int64.lt_iff_toInt_lt] at h h1
    omega
  · rw [if_neg h1]
    by_cases h2 : x = y
    · rw [if_pos h2]
      refine ⟨fun h => absurd h (by decide), fun h => ?_⟩
      rw [Int64.lt_iff_toInt_lt] at h
      rw [h2] at h
      omega
    · rw [if_neg h2]
      refine ⟨fun _ => ?_, fun _ => by decide⟩
      rw [Int64.lt_iff_toInt_lt] at h1 ⊢
      have : x.toInt ≠ y.toInt := fun e => h2 (Int64.toInt_inj.mp e)
      omega
theorem lg_gt {x y : Int64} : 0 < lg_cmp x y ↔ y < x := by
  unfold lg_cmp
  by_cases h1 : y < x
  · rw [if_pos h1]
    exact ⟨fun _ => h1, fun _ => by decide⟩
  · rw [if_neg h1]
    by_cases h2 : x = y
    · rw [if_pos h2]
      exact ⟨fun h => absurd h (by decide), fun h => absurd h h1⟩
    · rw [if_neg h2]
      exact ⟨fun h => absurd h (by decide), fun h => absurd h h1⟩
theorem z0 {α : Type} {a b : α} : (if (0 : Int32) = 0 ∨ (0 : Int32) = 1 then a else b) = a := if_pos (Or.inl rfl)
theorem z1 {α : Type} {a b : α} : (if (1 : Int32) = 0 ∨ (1 : Int32) = 1 then a else b) = a := if_pos (Or.inr rfl)
-- rows, looked at before they are used
theorem s_at {w : mW} {a n : Nat} {f : Nat → Int32} (h : aG w (some a) = some (n, f)) (hn : n < 2 ^ 31) {k : Nat} (hk : k < n) : f_X10_at (some a) (nI k) w = some (f k) := by
  have e := ix hk hn
  simp only [f_X10_at, f_X10_at_J21, f_X10_at_J20, oC_s, oC_n, aN, aL, h, Option.map_some, Option.bind_some, e.1]
  rw [if_neg e.2, if_neg (by rw [le_T]; show ¬ (nI n).toInt ≤ _; rw [nT hn, nT (by omega)]; omega), if_pos ⟨hk, e.2⟩]
  rfl
theorem s_put {w : mW} {a n : Nat} {f : Nat → Int32} (h : aG w (some a) = some (n, f)) (hn : n < 2 ^ 31) {k : Nat} (hk : k < n) (x : Int32) : f_X10_put (some a) (nI k) x w = some (w.set a (.inr (.inl (n, upd f k x)))) := by
  have e := ix hk hn
  simp only [f_X10_put, f_X10_put_J18, oC_s, oC_n, aN, aS, h, Option.map_some, Option.bind_some, e.1]
  rw [if_neg e.2, if_neg (by rw [le_T]; show ¬ (nI n).toInt ≤ _; rw [nT hn, nT (by omega)]; omega), if_pos ⟨hk, e.2⟩]
  rfl
