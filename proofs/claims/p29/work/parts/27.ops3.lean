theorem aN_of {w : mW} {a n : Nat} {f : Nat → Int32} (h : aG w (some a) = some (n, f)) : aN w (some a) = some (nI n) := by
  unfold aN
  rw [h]
  rfl
theorem aL_of {w : mW} {a n : Nat} {f : Nat → Int32} (h : aG w (some a) = some (n, f)) (hn : n < 2 ^ 31) {k : Nat} (hk : k < n) : aL w (some a) (nI k) = some (f k) := by
  have e := ix hk hn
  unfold aL
  rw [h]
  simp only [e.1]
  rw [if_pos ⟨hk, e.2⟩]
theorem aS_of {w : mW} {a n : Nat} {f : Nat → Int32} (h : aG w (some a) = some (n, f)) (hn : n < 2 ^ 31) {k : Nat} (hk : k < n) (x : Int32) : aS w (some a) (nI k) x = some (w.set a (.inr (.inl (n, upd f k x)))) := by
  have e := ix hk hn
  unfold aS
  rw [h]
  simp only [e.1]
  rw [if_pos ⟨hk, e.2⟩]
  rfl
theorem mT_ext {S T : mT} (h1 : S.1 = T.1) (h2 : ∀ r, S.2.1 r = T.2.1 r) (h3 : S.2.2 = T.2.2) : S = T := Prod.ext h1 (Prod.ext (funext h2) h3)
theorem uA_id {S : mT} {a : Nat} : uA S a (S.2.1 a) = S := by
  refine mT_ext rfl (fun r => ?_) rfl
  show (if r = a then S.2.1 a else S.2.1 r) = S.2.1 r
  by_cases h : r = a
  · rw [if_pos h, h]
  · rw [if_neg h]
theorem uA_n {S : mT} {a b : Nat} {f : Nat → Int32} (h : a ≠ b) : (uA S b f).2.1 a = S.2.1 a := if_neg h
/-- a loop with nothing to keep but its number -/
theorem loopK {β : Type} (F : Nat → Nat → Option β) (n : Nat) (r : β) (hs : ∀ m k, k < n → F (m + 1) k = F m (k + 1)) (he : ∀ m, F (m + 1) n = some r) (m : Nat) (hm : n < m) : F m 0 = some r :=
  loopG (fun m (_ : Unit) k => F m k) n (fun _ a => a) (fun _ => r) () (fun m k _ hk => hs m k hk) (fun m _ => he m) m hm
def cpy (n : Nat) (src old : Nat → Int32) : Nat → Int32 := fun j => if j < n then src j else old j
theorem cpy_lt {n i : Nat} {s o : Nat → Int32} (h : i < n) : cpy n s o i = s i := if_pos h
theorem cpy_0 {s o : Nat → Int32} : cpy 0 s o = o := funext fun j => if_neg (by omega)
theorem cpy_s {n : Nat} {s o : Nat → Int32} : upd (cpy n s o) n (s n) = cpy (n + 1) s o := funext fun j => by
  show (if j = n then s n else if j < n then s j else o j) = if j < n + 1 then s j else o j
  by_cases h : j = n
  · rw [if_pos h, if_pos (by omega), h]
  · rw [if_neg h]
    by_cases h2 : j < n
    · rw [if_pos h2, if_pos (by omega)]
    · rw [if_neg h2, if_neg (by omega)]
def cop (S : mT) (a b n : Nat) : mT := uA S b (cpy n (S.2.1 a) (S.2.1 b))
theorem cop_1 {S : mT} {a b n : Nat} : (cop S a b n).1 = S.1 := rfl
theorem cop_n {S : mT} {a b n r : Nat} (h : r ≠ b) : (cop S a b n).2.1 r = S.2.1 r := if_neg h
theorem cop_s {S : mT} {a b n i : Nat} (h : i < n) : (cop S a b n).2.1 b i = S.2.1 a i := by
  unfold cop
  rw [uA_s, cpy_lt h]
theorem s_copyC (a b n : Nat) (hn : n < 1000) (hab : a ≠ b) (ga : ∀ S, aG (mk S) (some a) = some (n, S.2.1 a)) (gb : ∀ S, aG (mk S) (some b) = some (n, S.2.1 b)) (wb : ∀ S f, (mk S).set b (.inr (.inl (n, f))) = mk (uA S b f)) (S : mT) : f_X10_copy (some a) (some b) (mk S) = some (mk (cop S a b n)) := by
  have hl := loopK (fun m k => f_X10_copy_L2 (some a) (some b) m (nI k) (mk (uA S b (cpy k (S.2.1 a) (S.2.1 b))))) n (mk (cop S a b n)) ?_ ?_ mFuel (by unfold mFuel; omega)
  · simp only [f_X10_copy]
    have h0 : uA S b (cpy 0 (S.2.1 a) (S.2.1 b)) = S := by rw [cpy_0, uA_id]
    rw [h0] at hl
    rw [show f_X10_copy_L2 (some a) (some b) mFuel 0 (mk S) = _ from hl]
    rfl
  · intro m k hk
    simp only [f_X10_copy_L2, oC_s, oC_n]
    rw [aN_of (ga _), Option.bind_some, if_neg (show ¬ nI n ≤ nI k by rw [n_le (by omega) (by omega)]; omega), aL_of (ga _) (by omega) hk, Option.bind_some, s_put (gb _) (by omega) hk, Option.bind_some, wb, uA_n hab, uA_s, cpy_s, uA_u, nI_1]
  · intro m
    simp only [f_X10_copy_L2, oC_s, oC_n]
    rw [aN_of (ga _), Option.bind_some, if_pos (show nI n ≤ nI n by rw [n_le (by omega) (by omega)]; omega)]
    rfl
theorem s_clear (b n : Nat) (hn : n < 1000) (gb : ∀ S, aG (mk S) (some b) = some (n, S.2.1 b)) (wb : ∀ S f, (mk S).set b (.inr (.inl (n, f))) = mk (uA S b f)) (S : mT) : f_X10_clear (some b) (mk S) = some (mk (uA S b (cpy n (fun _ => 0) (S.2.1 b)))) := by
  have hl := loopK (fun m k => f_X10_clear_L2 (some b) m (nI k) (mk (uA S b (cpy k (fun _ => 0) (S.2.1 b))))) n (mk (uA S b (cpy n (fun _ => 0) (S.2.1 b)))) ?_ ?_ mFuel (by unfold mFuel; omega)
  · simp only [f_X10_clear]
    have h0 : uA S b (cpy 0 (fun _ => 0) (S.2.1 b)) = S := by rw [cpy_0, uA_id]
    rw [h0] at hl
    rw [show f_X10_clear_L2 (some b) mFuel 0 (mk S) = _ from hl]
    rfl
  · intro m k hk
    simp only [f_X10_clear_L2, oC_s, oC_n]
    rw [aN_of (gb _), Option.bind_some, if_neg (show ¬ nI n ≤ nI k by rw [n_le (by omega) (by omega)]; omega), aS_of (gb _) (by omega) hk, Option.bind_some, wb, uA_s, uA_u, nI_1, ← cpy_s]
  · intro m
    simp only [f_X10_clear_L2, oC_s, oC_n]
    rw [aN_of (gb _), Option.bind_some, if_pos (show nI n ≤ nI n by rw [n_le (by omega) (by omega)]; omega)]
-- 18 image
theorem bnd {α β : Type} {e : Option α} {a : α} {k : α → Option β} {y : Option β} (h : e = some a) (h2 : k a = y) : Option.bind e k = y := by
  rw [h]
  exact h2
