abbrev mT : Type := (Nat → Nat → Int32) × (Nat → Nat → Int32) × (Nat → Option Nat) × Int64 × List mC
/-- the law's two rows of numbers, out of the parts that they are made of -/
def bRow (S : mT) : Nat → Int32 := fun k => if k = 0 then S.1 38 3 else if k = 1 then S.1 38 4 else S.2.1 44 (k - 2)
def dRow (S : mT) : Nat → Int32 := fun k => if k < 6 then S.2.1 40 k else if k < 12 then S.2.1 41 (k - 6) else if k < 18 then S.2.1 42 (k - 12) else if k < 24 then S.2.1 43 (k - 18) else if k < 28 then S.2.1 45 (k - 24) else if k < 32 then S.2.1 46 (k - 28) else if k < 36 then S.2.1 47 (k - 32) else if k = 36 then S.1 38 5 else if k = 37 then S.1 38 6 else if k = 38 then S.1 38 7 else 0
def mk (S : mT) : mW := .inl (10, [vr (some 1), vr (some 3), vr (some 8), vr (some 9), vr (some 20), vr (some 31), vr (some 37), vi (S.1 0 7), vi (S.1 0 8), vi (S.1 0 9), vi (S.1 0 10)]) :: .inl (3, [vr (some 2), vi (S.1 1 1)]) :: .inr (.inl (36, S.2.1 2)) :: .inl (5, [vr (some 4), vr (some 5), vr (some 6), vr (some 7), vi (S.1 3 4), vi (S.1 3 5), vi (S.1 3 6), vi (S.1 3 7)]) :: .inr (.inl (6, S.2.1 4)) :: .inr (.inl (4, S.2.1 5)) :: .inr (.inl (4, S.2.1 6)) :: .inr (.inl (4, S.2.1 7)) :: .inr (.inr (4, S.2.2.1)) :: .inl (2, [vr (some 10), vr (some 11), vr (some 12), vr (some 13), vr (some 14), vr (some 15), vr (some 16), vi (S.1 9 7), vi (S.1 9 8), vi (S.1 9 9), vi (S.1 9 10), vi (S.1 9 11)]) :: .inr (.inl (6, S.2.1 10)) :: .inr (.inl (6, S.2.1 11)) :: .inr (.inl (6, S.2.1 12)) :: .inr (.inl (4, S.2.1 13)) :: .inr (.inl (4, S.2.1 14)) :: .inr (.inl (4, S.2.1 15)) :: .inl (6, [vr (some 17), vr (some 18), vr (some 19), vi (S.1 16 3)]) :: .inr (.inl (6, S.2.1 17)) :: .inr (.inl (6, S.2.1 18)) :: .inr (.inl (6, S.2.1 19)) :: .inl (2, [vr (some 21), vr (some 22), vr (some 23), vr (some 24), vr (some 25), vr (some 26), vr (some 27), vi (S.1 20 7), vi (S.1 20 8), vi (S.1 20 9), vi (S.1 20 10), vi (S.1 20 11)]) :: .inr (.inl (6, S.2.1 21)) :: .inr (.inl (6, S.2.1 22)) :: .inr (.inl (6, S.2.1 23)) :: .inr (.inl (4, S.2.1 24)) :: .inr (.inl (4, S.2.1 25)) :: .inr (.inl (4, S.2.1 26)) :: .inl (6, [vr (some 28), vr (some 29), vr (some 30), vi (S.1 27 3)]) :: .inr (.inl (6, S.2.1 28)) :: .inr (.inl (6, S.2.1 29)) :: .inr (.inl (6, S.2.1 30)) :: .inl (4, [vr (some 32), vr (some 33), vr (some 34), vr (some 35), vr (some 36), vi (S.1 31 5), vi (S.1 31 6)]) :: .inr (.inl (144, S.2.1 32)) :: .inr (.inl (144, S.2.1 33)) :: .inr (.inl (64, S.2.1 34)) :: .inr (.inl (64, S.2.1 35)) :: .inr (.inl (6, S.2.1 36)) :: .inr (.inl (36, S.2.1 37)) :: .inr (.inl (6, bRow S)) :: .inr (.inl (39, dRow S)) :: .inr (.inl (36, S.2.1 39)) :: S.2.2.2.2
def uI (S : mT) (o k : Nat) (x : Int32) : mT := (fun o' k' => if o' = o ∧ k' = k then x else S.1 o' k', S.2)
def uA (S : mT) (a : Nat) (f : Nat → Int32) : mT := (S.1, fun a' => if a' = a then f else S.2.1 a', S.2.2)
def uQ (S : mT) (f : Nat → Option Nat) : mT := (S.1, S.2.1, f, S.2.2.2)
def uL (S : mT) (x : Int64) : mT := (S.1, S.2.1, S.2.2.1, x, S.2.2.2.2)
def uX (S : mT) (c : mC) : mT := (S.1, S.2.1, S.2.2.1, S.2.2.2.1, S.2.2.2.2 ++ [c])
theorem uI_1 {S : mT} {o k : Nat} {x : Int32} {o' k' : Nat} : (uI S o k x).1 o' k' = if o' = o ∧ k' = k then x else S.1 o' k' := rfl
theorem uI_2 {S : mT} {o k : Nat} {x : Int32} : (uI S o k x).2 = S.2 := rfl
theorem uA_1 {S : mT} {a : Nat} {f : Nat → Int32} : (uA S a f).1 = S.1 := rfl
theorem uA_2 {S : mT} {a : Nat} {f : Nat → Int32} {a' : Nat} : (uA S a f).2.1 a' = if a' = a then f else S.2.1 a' := rfl
theorem uA_3 {S : mT} {a : Nat} {f : Nat → Int32} : (uA S a f).2.2 = S.2.2 := rfl
theorem uQ_1 {S : mT} {f : Nat → Option Nat} : (uQ S f).1 = S.1 := rfl
theorem uQ_2 {S : mT} {f : Nat → Option Nat} : (uQ S f).2.1 = S.2.1 := rfl
theorem uQ_3 {S : mT} {f : Nat → Option Nat} : (uQ S f).2.2.1 = f := rfl
theorem uQ_4 {S : mT} {f : Nat → Option Nat} : (uQ S f).2.2.2 = S.2.2.2 := rfl
theorem uL_1 {S : mT} {x : Int64} : (uL S x).1 = S.1 := rfl
theorem uL_2 {S : mT} {x : Int64} : (uL S x).2.1 = S.2.1 := rfl
theorem uL_3 {S : mT} {x : Int64} : (uL S x).2.2.1 = S.2.2.1 := rfl
theorem uL_4 {S : mT} {x : Int64} : (uL S x).2.2.2.1 = x := rfl
theorem uL_5 {S : mT} {x : Int64} : (uL S x).2.2.2.2 = S.2.2.2.2 := rfl
theorem kk_0 (S : mT) : kO (mk S) (some 0) 10 = some 0 := id rfl
theorem rR_0_0 (S : mT) : gR (mk S) (some 0) 10 0 = some (some 1) := id rfl
theorem rR_0_1 (S : mT) : gR (mk S) (some 0) 10 1 = some (some 3) := id rfl
theorem rR_0_2 (S : mT) : gR (mk S) (some 0) 10 2 = some (some 8) := id rfl
theorem rR_0_3 (S : mT) : gR (mk S) (some 0) 10 3 = some (some 9) := id rfl
theorem rR_0_4 (S : mT) : gR (mk S) (some 0) 10 4 = some (some 20) := id rfl
theorem rR_0_5 (S : mT) : gR (mk S) (some 0) 10 5 = some (some 31) := id rfl
theorem rR_0_6 (S : mT) : gR (mk S) (some 0) 10 6 = some (some 37) := id rfl
theorem rI_0_7 (S : mT) : gI (mk S) (some 0) 10 7 = some (S.1 0 7) := id rfl
theorem wI_0_7 (S : mT) (x : Int32) : pI (mk S) (some 0) 10 7 x = some (mk (uI S 0 7 x)) := id rfl
theorem rI_0_8 (S : mT) : gI (mk S) (some 0) 10 8 = some (S.1 0 8) := id rfl
theorem wI_0_8 (S : mT) (x : Int32) : pI (mk S) (some 0) 10 8 x = some (mk (uI S 0 8 x)) := id rfl
theorem rI_0_9 (S : mT) : gI (mk S) (some 0) 10 9 = some (S.1 0 9) := id rfl
theorem wI_0_9 (S : mT) (x : Int32) : pI (mk S) (some 0) 10 9 x = some (mk (uI S 0 9 x)) := id rfl
theorem rI_0_10 (S : mT) : gI (mk S) (some 0) 10 10 = some (S.1 0 10) := id rfl
theorem wZ_0_10 (S : mT) (x : Int32) (h : x = 0 ∨ x = 1) : pZ (mk S) (some 0) 10 10 x = some (mk (uI S 0 10 x)) := by rcases h with rfl | rfl <;> rfl
theorem kk_1 (S : mT) : kO (mk S) (some 1) 3 = some 1 := id rfl
theorem rR_1_0 (S : mT) : gR (mk S) (some 1) 3 0 = some (some 2) := id rfl
theorem rI_1_1 (S : mT) : gI (mk S) (some 1) 3 1 = some (S.1 1 1) := id rfl
theorem wI_1_1 (S : mT) (x : Int32) : pI (mk S) (some 1) 3 1 x = some (mk (uI S 1 1 x)) := id rfl
theorem kk_3 (S : mT) : kO (mk S) (some 3) 5 = some 3 := id rfl
theorem rR_3_0 (S : mT) : gR (mk S) (some 3) 5 0 = some (some 4) := id rfl
theorem rR_3_1 (S : mT) : gR (mk S) (some 3) 5 1 = some (some 5) := id rfl
theorem rR_3_2 (S : mT) : gR (mk S) (some 3) 5 2 = some (some 6) := id rfl
theorem rR_3_3 (S : mT) : gR (mk S) (some 3) 5 3 = some (some 7) := id rfl
theorem rI_3_4 (S : mT) : gI (mk S) (some 3) 5 4 = some (S.1 3 4) := id rfl
theorem wI_3_4 (S : mT) (x : Int32) : pI (mk S) (some 3) 5 4 x = some (mk (uI S 3 4 x)) := id rfl
theorem rI_3_5 (S : mT) : gI (mk S) (some 3) 5 5 = some (S.1 3 5) := id rfl
theorem wI_3_5 (S : mT) (x : Int32) : pI (mk S) (some 3) 5 5 x = some (mk (uI S 3 5 x)) := id rfl
theorem rI_3_6 (S : mT) : gI (mk S) (some 3) 5 6 = some (S.1 3 6) := id rfl
theorem wI_3_6 (S : mT) (x : Int32) : pI (mk S) (some 3) 5 6 x = some (mk (uI S 3 6 x)) := id rfl
theorem rI_3_7 (S : mT) : gI (mk S) (some 3) 5 7 = some (S.1 3 7) := id rfl
theorem wI_3_7 (S : mT) (x : Int32) : pI (mk S) (some 3) 5 7 x = some (mk (uI S 3 7 x)) := id rfl
theorem kk_9 (S : mT) : kO (mk S) (some 9) 2 = some 9 := id rfl
theorem rR_9_0 (S : mT) : gR (mk S) (some 9) 2 0 = some (some 10) := id rfl
theorem rR_9_1 (S : mT) : gR (mk S) (some 9) 2 1 = some (some 11) := id rfl
theorem rR_9_2 (S : mT) : gR (mk S) (some 9) 2 2 = some (some 12) := id rfl
theorem rR_9_3 (S : mT) : gR (mk S) (some 9) 2 3 = some (some 13) := id rfl
theorem rR_9_4 (S : mT) : gR (mk S) (some 9) 2 4 = some (some 14) := id rfl
theorem rR_9_5 (S : mT) : gR (mk S) (some 9) 2 5 = some (some 15) := id rfl
theorem rR_9_6 (S : mT) : gR (mk S) (some 9) 2 6 = some (some 16) := id rfl
theorem rI_9_7 (S : mT) : gI (mk S) (some 9) 2 7 = some (S.1 9 7) := id rfl
theorem wI_9_7 (S : mT) (x : Int32) : pI (mk S) (some 9) 2 7 x = some (mk (uI S 9 7 x)) := id rfl
theorem rI_9_8 (S : mT) : gI (mk S) (some 9) 2 8 = some (S.1 9 8) := id rfl
theorem wI_9_8 (S : mT) (x : Int32) : pI (mk S) (some 9) 2 8 x = some (mk (uI S 9 8 x)) := id rfl
theorem rI_9_9 (S : mT) : gI (mk S) (some 9) 2 9 = some (S.1 9 9) := id rfl
theorem wI_9_9 (S : mT) (x : Int32) : pI (mk S) (some 9) 2 9 x = some (mk (uI S 9 9 x)) := id rfl
theorem rI_9_10 (S : mT) : gI (mk S) (some 9) 2 10 = some (S.1 9 10) := id rfl
theorem wI_9_10 (S : mT) (x : Int32) : pI (mk S) (some 9) 2 10 x = some (mk (uI S 9 10 x)) := id rfl
theorem rI_9_11 (S : mT) : gI (mk S) (some 9) 2 11 = some (S.1 9 11) := id rfl
theorem wI_9_11 (S : mT) (x : Int32) : pI (mk S) (some 9) 2 11 x = some (mk (uI S 9 11 x)) := id rfl
theorem kk_16 (S : mT) : kO (mk S) (some 16) 6 = some 16 := id rfl
theorem rR_16_0 (S : mT) : gR (mk S) (some 16) 6 0 = some (some 17) := id rfl
theorem rR_16_1 (S : mT) : gR (mk S) (some 16) 6 1 = some (some 18) := id rfl
theorem rR_16_2 (S : mT) : gR (mk S) (some 16) 6 2 = some (some 19) := id rfl
theorem rI_16_3 (S : mT) : gI (mk S) (some 16) 6 3 = some (S.1 16 3) := id rfl
theorem wI_16_3 (S : mT) (x : Int32) : pI (mk S) (some 16) 6 3 x = some (mk (uI S 16 3 x)) := id rfl
theorem kk_20 (S : mT) : kO (mk S) (some 20) 2 = some 20 := id rfl
theorem rR_20_0 (S : mT) : gR (mk S) (some 20) 2 0 = some (some 21) := id rfl
theorem rR_20_1 (S : mT) : gR (mk S) (some 20) 2 1 = some (some 22) := id rfl
theorem rR_20_2 (S : mT) : gR (mk S) (some 20) 2 2 = some (some 23) := id rfl
theorem rR_20_3 (S : mT) : gR (mk S) (some 20) 2 3 = some (some 24) := id rfl
theorem rR_20_4 (S : mT) : gR (mk S) (some 20) 2 4 = some (some 25) := id rfl
theorem rR_20_5 (S : mT) : gR (mk S) (some 20) 2 5 = some (some 26) := id rfl
theorem rR_20_6 (S : mT) : gR (mk S) (some 20) 2 6 = some (some 27) := id rfl
theorem rI_20_7 (S : mT) : gI (mk S) (some 20) 2 7 = some (S.1 20 7) := id rfl
theorem wI_20_7 (S : mT) (x : Int32) : pI (mk S) (some 20) 2 7 x = some (mk (uI S 20 7 x)) := id rfl
theorem rI_20_8 (S : mT) : gI (mk S) (some 20) 2 8 = some (S.1 20 8) := id rfl
theorem wI_20_8 (S : mT) (x : Int32) : pI (mk S) (some 20) 2 8 x = some (mk (uI S 20 8 x)) := id rfl
theorem rI_20_9 (S : mT) : gI (mk S) (some 20) 2 9 = some (S.1 20 9) := id rfl
theorem wI_20_9 (S : mT) (x : Int32) : pI (mk S) (some 20) 2 9 x = some (mk (uI S 20 9 x)) := id rfl
theorem rI_20_10 (S : mT) : gI (mk S) (some 20) 2 10 = some (S.1 20 10) := id rfl
theorem wI_20_10 (S : mT) (x : Int32) : pI (mk S) (some 20) 2 10 x = some (mk (uI S 20 10 x)) := id rfl
theorem rI_20_11 (S : mT) : gI (mk S) (some 20) 2 11 = some (S.1 20 11) := id rfl
theorem wI_20_11 (S : mT) (x : Int32) : pI (mk S) (some 20) 2 11 x = some (mk (uI S 20 11 x)) := id rfl
theorem kk_27 (S : mT) : kO (mk S) (some 27) 6 = some 27 := id rfl
theorem rR_27_0 (S : mT) : gR (mk S) (some 27) 6 0 = some (some 28) := id rfl
theorem rR_27_1 (S : mT) : gR (mk S) (some 27) 6 1 = some (some 29) := id rfl
theorem rR_27_2 (S : mT) : gR (mk S) (some 27) 6 2 = some (some 30) := id rfl
theorem rI_27_3 (S : mT) : gI (mk S) (some 27) 6 3 = some (S.1 27 3) := id rfl
theorem wI_27_3 (S : mT) (x : Int32) : pI (mk S) (some 27) 6 3 x = some (mk (uI S 27 3 x)) := id rfl
theorem kk_31 (S : mT) : kO (mk S) (some 31) 4 = some 31 := id rfl
theorem rR_31_0 (S : mT) : gR (mk S) (some 31) 4 0 = some (some 32) := id rfl
theorem rR_31_1 (S : mT) : gR (mk S) (some 31) 4 1 = some (some 33) := id rfl
theorem rR_31_2 (S : mT) : gR (mk S) (some 31) 4 2 = some (some 34) := id rfl
theorem rR_31_3 (S : mT) : gR (mk S) (some 31) 4 3 = some (some 35) := id rfl
theorem rR_31_4 (S : mT) : gR (mk S) (some 31) 4 4 = some (some 36) := id rfl
theorem rI_31_5 (S : mT) : gI (mk S) (some 31) 4 5 = some (S.1 31 5) := id rfl
theorem wI_31_5 (S : mT) (x : Int32) : pI (mk S) (some 31) 4 5 x = some (mk (uI S 31 5 x)) := id rfl
theorem rI_31_6 (S : mT) : gI (mk S) (some 31) 4 6 = some (S.1 31 6) := id rfl
theorem wI_31_6 (S : mT) (x : Int32) : pI (mk S) (some 31) 4 6 x = some (mk (uI S 31 6 x)) := id rfl
theorem n_add0 (a b : Nat) : nI a + nI b = nI (a + b) := (Int32.ofNat_add a b).symm
theorem ix {k n : Nat} (h : k < n) (hn : n < 2 ^ 31) : (nI k).toNatClampNeg = k ∧ ¬ nI k < 0 := ⟨nI_clamp (by omega), nI_pos (by omega)⟩
theorem aG_2 (S : mT) : aG (mk S) (some 2) = some (36, S.2.1 2) := id rfl
theorem aN_2 (S : mT) : aN (mk S) (some 2) = some 36 := id rfl
theorem aL_2 (S : mT) {k : Nat} (h : k < 36) : aL (mk S) (some 2) (nI k) = some (S.2.1 2 k) := by
  have e := ix h (by decide)
  unfold aL
  rw [aG_2]
  simp only [e.1]
  rw [if_pos ⟨h, e.2⟩]
theorem aW_2 (S : mT) (f : Nat → Int32) : (mk S).set 2 (.inr (.inl (36, f))) = mk (uA S 2 f) := id rfl
theorem aS_2 (S : mT) {k : Nat} (x : Int32) (h : k < 36) : aS (mk S) (some 2) (nI k) x = some (mk (uA S 2 (upd (S.2.1 2) k x))) := by
  have e := ix h (by decide)
  unfold aS
  rw [aG_2]
  simp only [e.1]
  rw [if_pos ⟨h, e.2⟩]
  exact congrArg some (aW_2 S _)
theorem aG_4 (S : mT) : aG (mk S) (some 4) = some (6, S.2.1 4) := id rfl
theorem aN_4 (S : mT) : aN (mk S) (some 4) = some 6 := id rfl
theorem aL_4 (S : mT) {k : Nat} (h : k < 6) : aL (mk S) (some 4) (nI k) = some (S.2.1 4 k) := by
  have e := ix h (by decide)
  unfold aL
  rw [aG_4]
  simp only [e.1]
  rw [if_pos ⟨h, e.2⟩]
theorem aW_4 (S : mT) (f : Nat → Int32) : (mk S).set 4 (.inr (.inl (6, f))) = mk (uA S 4 f) := id rfl
theorem aS_4 (S : mT) {k : Nat} (x : Int32) (h : k < 6) : aS (mk S) (some 4) (nI k) x = some (mk (uA S 4 (upd (S.2.1 4) k x))) := by
  have e := ix h (by decide)
  unfold aS
  rw [aG_4]
  simp only [e.1]
  rw [if_pos ⟨h, e.2⟩]
  exact congrArg some (aW_4 S _)
theorem aG_5 (S : mT) : aG (mk S) (some 5) = some (4, S.2.1 5) := id rfl
theorem aN_5 (S : mT) : aN (mk S) (some 5) = some 4 := id rfl
theorem aL_5 (S : mT) {k : Nat} (h : k < 4) : aL (mk S) (some 5) (nI k) = some (S.2.1 5 k) := by
  have e := ix h (by decide)
  unfold aL
  rw [aG_5]
  simp only [e.1]
  rw [if_pos ⟨h, e.2⟩]
theorem aW_5 (S : mT) (f : Nat → Int32) : (mk S).set 5 (.inr (.inl (4, f))) = mk (uA S 5 f) := id rfl
theorem aS_5 (S : mT) {k : Nat} (x : Int32) (h : k < 4) : aS (mk S) (some 5) (nI k) x = some (mk (uA S 5 (upd (S.2.1 5) k x))) := by
  have e := ix h (by decide)
  unfold aS
  rw [aG_5]
  simp only [e.1]
  rw [if_pos ⟨h, e.2⟩]
  exact congrArg some (aW_5 S _)
theorem aG_6 (S : mT) : aG (mk S) (some 6) = some (4, S.2.1 6) := id rfl
theorem aN_6 (S : mT) : aN (mk S) (some 6) = some 4 := id rfl
theorem aL_6 (S : mT) {k : Nat} (h : k < 4) : aL (mk S) (some 6) (nI k) = some (S.2.1 6 k) := by
  have e := ix h (by decide)
  unfold aL
  rw [aG_6]
  simp only [e.1]
  rw [if_pos ⟨h, e.2⟩]
theorem aW_6 (S : mT) (f : Nat → Int32) : (mk S).set 6 (.inr (.inl (4, f))) = mk (uA S 6 f) := id rfl
theorem aS_6 (S : mT) {k : Nat} (x : Int32) (h : k < 4) : aS (mk S) (some 6) (nI k) x = some (mk (uA S 6 (upd (S.2.1 6) k x))) := by
  have e := ix h (by decide)
  unfold aS
  rw [aG_6]
  simp only [e.1]
  rw [if_pos ⟨h, e.2⟩]
  exact congrArg some (aW_6 S _)
theorem aG_7 (S : mT) : aG (mk S) (some 7) = some (4, S.2.1 7) := id rfl
theorem aN_7 (S : mT) : aN (mk S) (some 7) = some 4 := id rfl
theorem aL_7 (S : mT) {k : Nat} (h : k < 4) : aL (mk S) (some 7) (nI k) = some (S.2.1 7 k) := by
  have e := ix h (by decide)
  unfold aL
  rw [aG_7]
  simp only [e.1]
  rw [if_pos ⟨h, e.2⟩]
theorem aW_7 (S : mT) (f : Nat → Int32) : (mk S).set 7 (.inr (.inl (4, f))) = mk (uA S 7 f) := id rfl
theorem aS_7 (S : mT) {k : Nat} (x : Int32) (h : k < 4) : aS (mk S) (some 7) (nI k) x = some (mk (uA S 7 (upd (S.2.1 7) k x))) := by
  have e := ix h (by decide)
  unfold aS
  rw [aG_7]
  simp only [e.1]
  rw [if_pos ⟨h, e.2⟩]
  exact congrArg some (aW_7 S _)
theorem aG_10 (S : mT) : aG (mk S) (some 10) = some (6, S.2.1 10) := id rfl
theorem aN_10 (S : mT) : aN (mk S) (some 10) = some 6 := id rfl
theorem aL_10 (S : mT) {k : Nat} (h : k < 6) : aL (mk S) (some 10) (nI k) = some (S.2.1 10 k) := by
  have e := ix h (by decide)
  unfold aL
  rw [aG_10]
  simp only [e.1]
  rw [if_pos ⟨h, e.2⟩]
theorem aW_10 (S : mT) (f : Nat → Int32) : (mk S).set 10 (.inr (.inl (6, f))) = mk (uA S 10 f) := id rfl
theorem aS_10 (S : mT) {k : Nat} (x : Int32) (h : k < 6) : aS (mk S) (some 10) (nI k) x = some (mk (uA S 10 (upd (S.2.1 10) k x))) := by
  have e := ix h (by decide)
  unfold aS
  rw [aG_10]
  simp only [e.1]
  rw [if_pos ⟨h, e.2⟩]
  exact congrArg some (aW_10 S _)
theorem aG_11 (S : mT) : aG (mk S) (some 11) = some (6, S.2.1 11) := id rfl
theorem aN_11 (S : mT) : aN (mk S) (some 11) = some 6 := id rfl
theorem aL_11 (S : mT) {k : Nat} (h : k < 6) : aL (mk S) (some 11) (nI k) = some (S.2.1 11 k) := by
  have e := ix h (by decide)
  unfold aL
  rw [aG_11]
  simp only [e.1]
  rw [if_pos ⟨h, e.2⟩]
theorem aW_11 (S : mT) (f : Nat → Int32) : (mk S).set 11 (.inr (.inl (6, f))) = mk (uA S 11 f) := id rfl
theorem aS_11 (S : mT) {k : Nat} (x : Int32) (h : k < 6) : aS (mk S) (some 11) (nI k) x = some (mk (uA S 11 (upd (S.2.1 11) k x))) := by
  have e := ix h (by decide)
  unfold aS
  rw [aG_11]
  simp only [e.1]
  rw [if_pos ⟨h, e.2⟩]
  exact congrArg some (aW_11 S _)
theorem aG_12 (S : mT) : aG (mk S) (some 12) = some (6, S.2.1 12) := id rfl
theorem aN_12 (S : mT) : aN (mk S) (some 12) = some 6 := id rfl
theorem aL_12 (S : mT) {k : Nat} (h : k < 6) : aL (mk S) (some 12) (nI k) = some (S.2.1 12 k) := by
  have e := ix h (by decide)
  unfold aL
  rw [aG_12]
  simp only [e.1]
  rw [if_pos ⟨h, e.2⟩]
theorem aW_12 (S : mT) (f : Nat → Int32) : (mk S).set 12 (.inr (.inl (6, f))) = mk (uA S 12 f) := id rfl
theorem aS_12 (S : mT) {k : Nat} (x : Int32) (h : k < 6) : aS (mk S) (some 12) (nI k) x = some (mk (uA S 12 (upd (S.2.1 12) k x))) := by
  have e := ix h (by decide)
  unfold aS
  rw [aG_12]
  simp only [e.1]
  rw [if_pos ⟨h, e.2⟩]
  exact congrArg some (aW_12 S _)
theorem aG_13 (S : mT) : aG (mk S) (some 13) = some (4, S.2.1 13) := id rfl
theorem aN_13 (S : mT) : aN (mk S) (some 13) = some 4 := id rfl
theorem aL_13 (S : mT) {k : Nat} (h : k < 4) : aL (mk S) (some 13) (nI k) = some (S.2.1 13 k) := by
  have e := ix h (by decide)
  unfold aL
  rw [aG_13]
  simp only [e.1]
  rw [if_pos ⟨h, e.2⟩]
theorem aW_13 (S : mT) (f : Nat → Int32) : (mk S).set 13 (.inr (.inl (4, f))) = mk (uA S 13 f) := id rfl
theorem aS_13 (S : mT) {k : Nat} (x : Int32) (h : k < 4) : aS (mk S) (some 13) (nI k) x = some (mk (uA S 13 (upd (S.2.1 13) k x))) := by
  have e := ix h (by decide)
  unfold aS
  rw [aG_13]
  simp only [e.1]
  rw [if_pos ⟨h, e.2⟩]
  exact congrArg some (aW_13 S _)
theorem aG_14 (S : mT) : aG (mk S) (some 14) = some (4, S.2.1 14) := id rfl
theorem aN_14 (S : mT) : aN (mk S) (some 14) = some 4 := id rfl
theorem aL_14 (S : mT) {k : Nat} (h : k < 4) : aL (mk S) (some 14) (nI k) = some (S.2.1 14 k) := by
  have e := ix h (by decide)
  unfold aL
  rw [aG_14]
  simp only [e.1]
  rw [if_pos ⟨h, e.2⟩]
theorem aW_14 (S : mT) (f : Nat → Int32) : (mk S).set 14 (.inr (.inl (4, f))) = mk (uA S 14 f) := id rfl
theorem aS_14 (S : mT) {k : Nat} (x : Int32) (h : k < 4) : aS (mk S) (some 14) (nI k) x = some (mk (uA S 14 (upd (S.2.1 14) k x))) := by
  have e := ix h (by decide)
  unfold aS
  rw [aG_14]
  simp only [e.1]
  rw [if_pos ⟨h, e.2⟩]
  exact congrArg some (aW_14 S _)
theorem aG_15 (S : mT) : aG (mk S) (some 15) = some (4, S.2.1 15) := id rfl
theorem aN_15 (S : mT) : aN (mk S) (some 15) = some 4 := id rfl
theorem aL_15 (S : mT) {k : Nat} (h : k < 4) : aL (mk S) (some 15) (nI k) = some (S.2.1 15 k) := by
  have e := ix h (by decide)
  unfold aL
  rw [aG_15]
  simp only [e.1]
  rw [if_pos ⟨h, e.2⟩]
theorem aW_15 (S : mT) (f : Nat → Int32) : (mk S).set 15 (.inr (.inl (4, f))) = mk (uA S 15 f) := id rfl
theorem aS_15 (S : mT) {k : Nat} (x : Int32) (h : k < 4) : aS (mk S) (some 15) (nI k) x = some (mk (uA S 15 (upd (S.2.1 15) k x))) := by
  have e := ix h (by decide)
  unfold aS
  rw [aG_15]
  simp only [e.1]
  rw [if_pos ⟨h, e.2⟩]
  exact congrArg some (aW_15 S _)
theorem aG_17 (S : mT) : aG (mk S) (some 17) = some (6, S.2.1 17) := id rfl
theorem aN_17 (S : mT) : aN (mk S) (some 17) = some 6 := id rfl
theorem aL_17 (S : mT) {k : Nat} (h : k < 6) : aL (mk S) (some 17) (nI k) = some (S.2.1 17 k) := by
  have e := ix h (by decide)
  unfold aL
  rw [aG_17]
  simp only [e.1]
  rw [if_pos ⟨h, e.2⟩]
theorem aW_17 (S : mT) (f : Nat → Int32) : (mk S).set 17 (.inr (.inl (6, f))) = mk (uA S 17 f) := id rfl
theorem aS_17 (S : mT) {k : Nat} (x : Int32) (h : k < 6) : aS (mk S) (some 17) (nI k) x = some (mk (uA S 17 (upd (S.2.1 17) k x))) := by
  have e := ix h (by decide)
  unfold aS
  rw [aG_17]
  simp only [e.1]
  rw [if_pos ⟨h, e.2⟩]
  exact congrArg some (aW_17 S _)
theorem aG_18 (S : mT) : aG (mk S) (some 18) = some (6, S.2.1 18) := id rfl
theorem aN_18 (S : mT) : aN (mk S) (some 18) = some 6 := id rfl
theorem aL_18 (S : mT) {k : Nat} (h : k < 6) : aL (mk S) (some 18) (nI k) = some (S.2.1 18 k) := by
  have e := ix h (by decide)
  unfold aL
  rw [aG_18]
  simp only [e.1]
  rw [if_pos ⟨h, e.2⟩]
theorem aW_18 (S : mT) (f : Nat → Int32) : (mk S).set 18 (.inr (.inl (6, f))) = mk (uA S 18 f) := id rfl
theorem aS_18 (S : mT) {k : Nat} (x : Int32) (h : k < 6) : aS (mk S) (some 18) (nI k) x = some (mk (uA S 18 (upd (S.2.1 18) k x))) := by
  have e := ix h (by decide)
  unfold aS
  rw [aG_18]
  simp only [e.1]
  rw [if_pos ⟨h, e.2⟩]
  exact congrArg some (aW_18 S _)
theorem aG_19 (S : mT) : aG (mk S) (some 19) = some (6, S.2.1 19) := id rfl
theorem aN_19 (S : mT) : aN (mk S) (some 19) = some 6 := id rfl
theorem aL_19 (S : mT) {k : Nat} (h : k < 6) : aL (mk S) (some 19) (nI k) = some (S.2.1 19 k) := by
  have e := ix h (by decide)
  unfold aL
  rw [aG_19]
  simp only [e.1]
  rw [if_pos ⟨h, e.2⟩]
theorem aW_19 (S : mT) (f : Nat → Int32) : (mk S).set 19 (.inr (.inl (6, f))) = mk (uA S 19 f) := id rfl
theorem aS_19 (S : mT) {k : Nat} (x : Int32) (h : k < 6) : aS (mk S) (some 19) (nI k) x = some (mk (uA S 19 (upd (S.2.1 19) k x))) := by
  have e := ix h (by decide)
  unfold aS
  rw [aG_19]
  simp only [e.1]
  rw [if_pos ⟨h, e.2⟩]
  exact congrArg some (aW_19 S _)
theorem aG_21 (S : mT) : aG (mk S) (some 21) = some (6, S.2.1 21) := id rfl
theorem aN_21 (S : mT) : aN (mk S) (some 21) = some 6 := id rfl
theorem aL_21 (S : mT) {k : Nat} (h : k < 6) : aL (mk S) (some 21) (nI k) = some (S.2.1 21 k) := by
  have e := ix h (by decide)
  unfold aL
  rw [aG_21]
  simp only [e.1]
  rw [if_pos ⟨h, e.2⟩]
theorem aW_21 (S : mT) (f : Nat → Int32) : (mk S).set 21 (.inr (.inl (6, f))) = mk (uA S 21 f) := id rfl
theorem aS_21 (S : mT) {k : Nat} (x : Int32) (h : k < 6) : aS (mk S) (some 21) (nI k) x = some (mk (uA S 21 (upd (S.2.1 21) k x))) := by
  have e := ix h (by decide)
  unfold aS
  rw [aG_21]
  simp only [e.1]
  rw [if_pos ⟨h, e.2⟩]
  exact congrArg some (aW_21 S _)
theorem aG_22 (S : mT) : aG (mk S) (some 22) = some (6, S.2.1 22) := id rfl
theorem aN_22 (S : mT) : aN (mk S) (some 22) = some 6 := id rfl
theorem aL_22 (S : mT) {k : Nat} (h : k < 6) : aL (mk S) (some 22) (nI k) = some (S.2.1 22 k) := by
  have e := ix h (by decide)
  unfold aL
  rw [aG_22]
  simp only [e.1]
  rw [if_pos ⟨h, e.2⟩]
theorem aW_22 (S : mT) (f : Nat → Int32) : (mk S).set 22 (.inr (.inl (6, f))) = mk (uA S 22 f) := id rfl
theorem aS_22 (S : mT) {k : Nat} (x : Int32) (h : k < 6) : aS (mk S) (some 22) (nI k) x = some (mk (uA S 22 (upd (S.2.1 22) k x))) := by
  have e := ix h (by decide)
  unfold aS
  rw [aG_22]
  simp only [e.1]
  rw [if_pos ⟨h, e.2⟩]
  exact congrArg some (aW_22 S _)
theorem aG_23 (S : mT) : aG (mk S) (some 23) = some (6, S.2.1 23) := id rfl
theorem aN_23 (S : mT) : aN (mk S) (some 23) = some 6 := id rfl
theorem aL_23 (S : mT) {k : Nat} (h : k < 6) : aL (mk S) (some 23) (nI k) = some (S.2.1 23 k) := by
  have e := ix h (by decide)
  unfold aL
  rw [aG_23]
  simp only [e.1]
  rw [if_pos ⟨h, e.2⟩]
theorem aW_23 (S : mT) (f : Nat → Int32) : (mk S).set 23 (.inr (.inl (6, f))) = mk (uA S 23 f) := id rfl
theorem aS_23 (S : mT) {k : Nat} (x : Int32) (h : k < 6) : aS (mk S) (some 23) (nI k) x = some (mk (uA S 23 (upd (S.2.1 23) k x))) := by
  have e := ix h (by decide)
  unfold aS
  rw [aG_23]
  simp only [e.1]
  rw [if_pos ⟨h, e.2⟩]
  exact congrArg some (aW_23 S _)
theorem aG_24 (S : mT) : aG (mk S) (some 24) = some (4, S.2.1 24) := id rfl
theorem aN_24 (S : mT) : aN (mk S) (some 24) = some 4 := id rfl
theorem aL_24 (S : mT) {k : Nat} (h : k < 4) : aL (mk S) (some 24) (nI k) = some (S.2.1 24 k) := by
  have e := ix h (by decide)
  unfold aL
  rw [aG_24]
  simp only [e.1]
  rw [if_pos ⟨h, e.2⟩]
theorem aW_24 (S : mT) (f : Nat → Int32) : (mk S).set 24 (.inr (.inl (4, f))) = mk (uA S 24 f) := id rfl
theorem aS_24 (S : mT) {k : Nat} (x : Int32) (h : k < 4) : aS (mk S) (some 24) (nI k) x = some (mk (uA S 24 (upd (S.2.1 24) k x))) := by
  have e := ix h (by decide)
  unfold aS
  rw [aG_24]
  simp only [e.1]
  rw [if_pos ⟨h, e.2⟩]
  exact congrArg some (aW_24 S _)
theorem aG_25 (S : mT) : aG (mk S) (some 25) = some (4, S.2.1 25) := id rfl
theorem aN_25 (S : mT) : aN (mk S) (some 25) = some 4 := id rfl
theorem aL_25 (S : mT) {k : Nat} (h : k < 4) : aL (mk S) (some 25) (nI k) = some (S.2.1 25 k) := by
  have e := ix h (by decide)
  unfold aL
  rw [aG_25]
  simp only [e.1]
  rw [if_pos ⟨h, e.2⟩]
theorem aW_25 (S : mT) (f : Nat → Int32) : (mk S).set 25 (.inr (.inl (4, f))) = mk (uA S 25 f) := id rfl
theorem aS_25 (S : mT) {k : Nat} (x : Int32) (h : k < 4) : aS (mk S) (some 25) (nI k) x = some (mk (uA S 25 (upd (S.2.1 25) k x))) := by
  have e := ix h (by decide)
  unfold aS
  rw [aG_25]
  simp only [e.1]
  rw [if_pos ⟨h, e.2⟩]
  exact congrArg some (aW_25 S _)
theorem aG_26 (S : mT) : aG (mk S) (some 26) = some (4, S.2.1 26) := id rfl
theorem aN_26 (S : mT) : aN (mk S) (some 26) = some 4 := id rfl
theorem aL_26 (S : mT) {k : Nat} (h : k < 4) : aL (mk S) (some 26) (nI k) = some (S.2.1 26 k) := by
  have e := ix h (by decide)
  unfold aL
  rw [aG_26]
  simp only [e.1]
  rw [if_pos ⟨h, e.2⟩]
theorem aW_26 (S : mT) (f : Nat → Int32) : (mk S).set 26 (.inr (.inl (4, f))) = mk (uA S 26 f) := id rfl
theorem aS_26 (S : mT) {k : Nat} (x : Int32) (h : k < 4) : aS (mk S) (some 26) (nI k) x = some (mk (uA S 26 (upd (S.2.1 26) k x))) := by
  have e := ix h (by decide)
  unfold aS
  rw [aG_26]
  simp only [e.1]
  rw [if_pos ⟨h, e.2⟩]
  exact congrArg some (aW_26 S _)
theorem aG_28 (S : mT) : aG (mk S) (some 28) = some (6, S.2.1 28) := id rfl
theorem aN_28 (S : mT) : aN (mk S) (some 28) = some 6 := id rfl
theorem aL_28 (S : mT) {k : Nat} (h : k < 6) : aL (mk S) (some 28) (nI k) = some (S.2.1 28 k) := by
  have e := ix h (by decide)
  unfold aL
  rw [aG_28]
  simp only [e.1]
  rw [if_pos ⟨h, e.2⟩]
theorem aW_28 (S : mT) (f : Nat → Int32) : (mk S).set 28 (.inr (.inl (6, f))) = mk (uA S 28 f) := id rfl
theorem aS_28 (S : mT) {k : Nat} (x : Int32) (h : k < 6) : aS (mk S) (some 28) (nI k) x = some (mk (uA S 28 (upd (S.2.1 28) k x))) := by
  have e := ix h (by decide)
  unfold aS
  rw [aG_28]
  simp only [e.1]
  rw [if_pos ⟨h, e.2⟩]
  exact congrArg some (aW_28 S _)
theorem aG_29 (S : mT) : aG (mk S) (some 29) = some (6, S.2.1 29) := id rfl
theorem aN_29 (S : mT) : aN (mk S) (some 29) = some 6 := id rfl
theorem aL_29 (S : mT) {k : Nat} (h : k < 6) : aL (mk S) (some 29) (nI k) = some (S.2.1 29 k) := by
  have e := ix h (by decide)
  unfold aL
  rw [aG_29]
  simp only [e.1]
  rw [if_pos ⟨h, e.2⟩]
theorem aW_29 (S : mT) (f : Nat → Int32) : (mk S).set 29 (.inr (.inl (6, f))) = mk (uA S 29 f) := id rfl
theorem aS_29 (S : mT) {k : Nat} (x : Int32) (h : k < 6) : aS (mk S) (some 29) (nI k) x = some (mk (uA S 29 (upd (S.2.1 29) k x))) := by
  have e := ix h (by decide)
  unfold aS
  rw [aG_29]
  simp only [e.1]
  rw [if_pos ⟨h, e.2⟩]
  exact congrArg some (aW_29 S _)
theorem aG_30 (S : mT) : aG (mk S) (some 30) = some (6, S.2.1 30) := id rfl
theorem aN_30 (S : mT) : aN (mk S) (some 30) = some 6 := id rfl
theorem aL_30 (S : mT) {k : Nat} (h : k < 6) : aL (mk S) (some 30) (nI k) = some (S.2.1 30 k) := by
  have e := ix h (by decide)
  unfold aL
  rw [aG_30]
  simp only [e.1]
  rw [if_pos ⟨h, e.2⟩]
theorem aW_30 (S : mT) (f : Nat → Int32) : (mk S).set 30 (.inr (.inl (6, f))) = mk (uA S 30 f) := id rfl
theorem aS_30 (S : mT) {k : Nat} (x : Int32) (h : k < 6) : aS (mk S) (some 30) (nI k) x = some (mk (uA S 30 (upd (S.2.1 30) k x))) := by
  have e := ix h (by decide)
  unfold aS
  rw [aG_30]
  simp only [e.1]
  rw [if_pos ⟨h, e.2⟩]
  exact congrArg some (aW_30 S _)
theorem aG_32 (S : mT) : aG (mk S) (some 32) = some (144, S.2.1 32) := id rfl
theorem aN_32 (S : mT) : aN (mk S) (some 32) = some 144 := id rfl
theorem aL_32 (S : mT) {k : Nat} (h : k < 144) : aL (mk S) (some 32) (nI k) = some (S.2.1 32 k) := by
  have e := ix h (by decide)
  unfold aL
  rw [aG_32]
  simp only [e.1]
  rw [if_pos ⟨h, e.2⟩]
theorem aW_32 (S : mT) (f : Nat → Int32) : (mk S).set 32 (.inr (.inl (144, f))) = mk (uA S 32 f) := id rfl
theorem aS_32 (S : mT) {k : Nat} (x : Int32) (h : k < 144) : aS (mk S) (some 32) (nI k) x = some (mk (uA S 32 (upd (S.2.1 32) k x))) := by
  have e := ix h (by decide)
  unfold aS
  rw [aG_32]
  simp only [e.1]
  rw [if_pos ⟨h, e.2⟩]
  exact congrArg some (aW_32 S _)
theorem aG_33 (S : mT) : aG (mk S) (some 33) = some (144, S.2.1 33) := id rfl
theorem aN_33 (S : mT) : aN (mk S) (some 33) = some 144 := id rfl
theorem aL_33 (S : mT) {k : Nat} (h : k < 144) : aL (mk S) (some 33) (nI k) = some (S.2.1 33 k) := by
  have e := ix h (by decide)
  unfold aL
  rw [aG_33]
  simp only [e.1]
  rw [if_pos ⟨h, e.2⟩]
theorem aW_33 (S : mT) (f : Nat → Int32) : (mk S).set 33 (.inr (.inl (144, f))) = mk (uA S 33 f) := id rfl
theorem aS_33 (S : mT) {k : Nat} (x : Int32) (h : k < 144) : aS (mk S) (some 33) (nI k) x = some (mk (uA S 33 (upd (S.2.1 33) k x))) := by
  have e := ix h (by decide)
  unfold aS
  rw [aG_33]
  simp only [e.1]
  rw [if_pos ⟨h, e.2⟩]
  exact congrArg some (aW_33 S _)
theorem aG_34 (S : mT) : aG (mk S) (some 34) = some (64, S.2.1 34) := id rfl
theorem aN_34 (S : mT) : aN (mk S) (some 34) = some 64 := id rfl
theorem aL_34 (S : mT) {k : Nat} (h : k < 64) : aL (mk S) (some 34) (nI k) = some (S.2.1 34 k) := by
  have e := ix h (by decide)
  unfold aL
  rw [aG_34]
  simp only [e.1]
  rw [if_pos ⟨h, e.2⟩]
theorem aW_34 (S : mT) (f : Nat → Int32) : (mk S).set 34 (.inr (.inl (64, f))) = mk (uA S 34 f) := id rfl
theorem aS_34 (S : mT) {k : Nat} (x : Int32) (h : k < 64) : aS (mk S) (some 34) (nI k) x = some (mk (uA S 34 (upd (S.2.1 34) k x))) := by
  have e := ix h (by decide)
  unfold aS
  rw [aG_34]
  simp only [e.1]
  rw [if_pos ⟨h, e.2⟩]
  exact congrArg some (aW_34 S _)
theorem aG_35 (S : mT) : aG (mk S) (some 35) = some (64, S.2.1 35) := id rfl
theorem aN_35 (S : mT) : aN (mk S) (some 35) = some 64 := id rfl
theorem aL_35 (S : mT) {k : Nat} (h : k < 64) : aL (mk S) (some 35) (nI k) = some (S.2.1 35 k) := by
  have e := ix h (by decide)
  unfold aL
  rw [aG_35]
  simp only [e.1]
  rw [if_pos ⟨h, e.2⟩]
theorem aW_35 (S : mT) (f : Nat → Int32) : (mk S).set 35 (.inr (.inl (64, f))) = mk (uA S 35 f) := id rfl
theorem aS_35 (S : mT) {k : Nat} (x : Int32) (h : k < 64) : aS (mk S) (some 35) (nI k) x = some (mk (uA S 35 (upd (S.2.1 35) k x))) := by
  have e := ix h (by decide)
  unfold aS
  rw [aG_35]
  simp only [e.1]
  rw [if_pos ⟨h, e.2⟩]
  exact congrArg some (aW_35 S _)
theorem aG_36 (S : mT) : aG (mk S) (some 36) = some (6, S.2.1 36) := id rfl
theorem aN_36 (S : mT) : aN (mk S) (some 36) = some 6 := id rfl
theorem aL_36 (S : mT) {k : Nat} (h : k < 6) : aL (mk S) (some 36) (nI k) = some (S.2.1 36 k) := by
  have e := ix h (by decide)
  unfold aL
  rw [aG_36]
  simp only [e.1]
  rw [if_pos ⟨h, e.2⟩]
theorem aW_36 (S : mT) (f : Nat → Int32) : (mk S).set 36 (.inr (.inl (6, f))) = mk (uA S 36 f) := id rfl
theorem aS_36 (S : mT) {k : Nat} (x : Int32) (h : k < 6) : aS (mk S) (some 36) (nI k) x = some (mk (uA S 36 (upd (S.2.1 36) k x))) := by
  have e := ix h (by decide)
  unfold aS
  rw [aG_36]
  simp only [e.1]
  rw [if_pos ⟨h, e.2⟩]
  exact congrArg some (aW_36 S _)
theorem aG_37 (S : mT) : aG (mk S) (some 37) = some (36, S.2.1 37) := id rfl
theorem aN_37 (S : mT) : aN (mk S) (some 37) = some 36 := id rfl
theorem aL_37 (S : mT) {k : Nat} (h : k < 36) : aL (mk S) (some 37) (nI k) = some (S.2.1 37 k) := by
  have e := ix h (by decide)
  unfold aL
  rw [aG_37]
  simp only [e.1]
  rw [if_pos ⟨h, e.2⟩]
theorem aW_37 (S : mT) (f : Nat → Int32) : (mk S).set 37 (.inr (.inl (36, f))) = mk (uA S 37 f) := id rfl
theorem aS_37 (S : mT) {k : Nat} (x : Int32) (h : k < 36) : aS (mk S) (some 37) (nI k) x = some (mk (uA S 37 (upd (S.2.1 37) k x))) := by
  have e := ix h (by decide)
  unfold aS
  rw [aG_37]
  simp only [e.1]
  rw [if_pos ⟨h, e.2⟩]
  exact congrArg some (aW_37 S _)
theorem aG_40 (S : mT) : aG (mk S) (some 40) = some (36, S.2.1 39) := id rfl
theorem aL_40 (S : mT) {k : Nat} (h : k < 36) : aL (mk S) (some 40) (nI k) = some (S.2.1 39 k) := by
  have e := ix h (by decide)
  unfold aL
  rw [aG_40]
  simp only [e.1]
  rw [if_pos ⟨h, e.2⟩]
theorem aW_40 (S : mT) (f : Nat → Int32) : (mk S).set 40 (.inr (.inl (36, f))) = mk (uA S 39 f) := id rfl
theorem aS_40 (S : mT) {k : Nat} (x : Int32) (h : k < 36) : aS (mk S) (some 40) (nI k) x = some (mk (uA S 39 (upd (S.2.1 39) k x))) := by
  have e := ix h (by decide)
  unfold aS
  rw [aG_40]
  simp only [e.1]
  rw [if_pos ⟨h, e.2⟩]
  exact congrArg some (aW_40 S _)
theorem aG_38 (S : mT) : aG (mk S) (some 38) = some (6, bRow S) := id rfl
theorem aG_39 (S : mT) : aG (mk S) (some 39) = some (39, dRow S) := id rfl
theorem aL_38 (S : mT) {k : Nat} (h : k < 6) : aL (mk S) (some 38) (nI k) = some (bRow S k) := by
  have e := ix h (by decide)
  unfold aL
  rw [aG_38]
  simp only [e.1]
  rw [if_pos ⟨h, e.2⟩]
theorem aL_39 (S : mT) {k : Nat} (h : k < 39) : aL (mk S) (some 39) (nI k) = some (dRow S k) := by
  have e := ix h (by decide)
  unfold aL
  rw [aG_39]
  simp only [e.1]
  rw [if_pos ⟨h, e.2⟩]
theorem b0_r (S : mT) : bRow S 0 = S.1 38 3 := rfl
theorem b0_L (S : mT) : aL (mk S) (some 38) (0 : Int32) = some (S.1 38 3) := aL_38 S (k := 0) (by decide)
theorem b0_u (S : mT) (x : Int32) : upd (bRow S) 0 x = bRow (uI S 38 3 x) := by
  funext j
  show (if j = 0 then x else (if j = 0 then S.1 38 3 else (if j = 1 then S.1 38 4 else S.2.1 44 (j - 2)))) = (if j = 0 then x else (if j = 1 then S.1 38 4 else S.2.1 44 (j - 2)))
  repeat' split
  all_goals first | rfl | (exfalso; omega)
theorem b0_S (S : mT) (x : Int32) : aS (mk S) (some 38) (0 : Int32) x = some (mk (uI S 38 3 x)) := by
  have e := ix (k := 0) (n := 6) (by decide) (by decide)
  show aS (mk S) (some 38) (nI 0) x = _
  unfold aS
  rw [aG_38]
  simp only [e.1]
  rw [if_pos ⟨by decide, e.2⟩]
  exact congrArg some ((congrArg (fun f => (mk S).set 38 (.inr (.inl (6, f)))) (b0_u S x)).trans rfl)
theorem b1_r (S : mT) : bRow S 1 = S.1 38 4 := rfl
theorem b1_L (S : mT) : aL (mk S) (some 38) (1 : Int32) = some (S.1 38 4) := aL_38 S (k := 1) (by decide)
theorem b1_u (S : mT) (x : Int32) : upd (bRow S) 1 x = bRow (uI S 38 4 x) := by
  funext j
  show (if j = 1 then x else (if j = 0 then S.1 38 3 else (if j = 1 then S.1 38 4 else S.2.1 44 (j - 2)))) = (if j = 0 then S.1 38 3 else (if j = 1 then x else S.2.1 44 (j - 2)))
  repeat' split
  all_goals first | rfl | (exfalso; omega)
theorem b1_S (S : mT) (x : Int32) : aS (mk S) (some 38) (1 : Int32) x = some (mk (uI S 38 4 x)) := by
  have e := ix (k := 1) (n := 6) (by decide) (by decide)
  show aS (mk S) (some 38) (nI 1) x = _
  unfold aS
  rw [aG_38]
  simp only [e.1]
  rw [if_pos ⟨by decide, e.2⟩]
  exact congrArg some ((congrArg (fun f => (mk S).set 38 (.inr (.inl (6, f)))) (b1_u S x)).trans rfl)
theorem bp2_r (S : mT) {k : Nat} (h : k < 4) : bRow S (2 + k) = S.2.1 44 k := by
  generalize hj : 2 + k = j
  show (if j = 0 then S.1 38 3 else (if j = 1 then S.1 38 4 else S.2.1 44 (j - 2))) = _
  repeat' split
  all_goals first | (exfalso; omega) | exact congrArg (S.2.1 44) (by omega)
theorem bp2_L (S : mT) {k : Nat} (h : k < 4) : aL (mk S) (some 38) ((2 : Int32) + nI k) = some (S.2.1 44 k) := by
  rw [show (2 : Int32) + nI k = nI (2 + k) from n_add0 2 k, aL_38 S (by omega), bp2_r S h]
theorem bp2_u (S : mT) {k : Nat} (h : k < 4) (x : Int32) : upd (bRow S) (2 + k) x = bRow (uA S 44 (upd (S.2.1 44) k x)) := by
  funext j
  show (if j = 2 + k then x else (if j = 0 then S.1 38 3 else (if j = 1 then S.1 38 4 else S.2.1 44 (j - 2)))) = (if j = 0 then S.1 38 3 else (if j = 1 then S.1 38 4 else (if j - 2 = k then x else S.2.1 44 (j - 2))))
  repeat' split
  all_goals first | rfl | (exfalso; omega)
theorem bp2_S (S : mT) {k : Nat} (h : k < 4) (x : Int32) : aS (mk S) (some 38) ((2 : Int32) + nI k) x = some (mk (uA S 44 (upd (S.2.1 44) k x))) := by
  have e := ix (k := 2 + k) (n := 6) (by omega) (by decide)
  rw [show (2 : Int32) + nI k = nI (2 + k) from n_add0 2 k]
  unfold aS
  rw [aG_38]
  simp only [e.1]
  rw [if_pos ⟨by omega, e.2⟩]
  exact congrArg some ((congrArg (fun f => (mk S).set 38 (.inr (.inl (6, f)))) (bp2_u S h x)).trans rfl)
theorem dp0_r (S : mT) {k : Nat} (h : k < 6) : dRow S (0 + k) = S.2.1 40 k := by
  generalize hj : 0 + k = j
  show (if j < 6 then S.2.1 40 (j) else (if j < 12 then S.2.1 41 (j - 6) else (if j < 18 then S.2.1 42 (j - 12) else (if j < 24 then S.2.1 43 (j - 18) else (if j < 28 then S.2.1 45 (j - 24) else (if j < 32 then S.2.1 46 (j - 28) else (if j < 36 then S.2.1 47 (j - 32) else (if j = 36 then S.1 38 5 else (if j = 37 then S.1 38 6 else (if j = 38 then S.1 38 7 else 0)))))))))) = _
  repeat' split
  all_goals first | (exfalso; omega) | exact congrArg (S.2.1 40) (by omega)
theorem dp0_L (S : mT) {k : Nat} (h : k < 6) : aL (mk S) (some 39) (nI k) = some (S.2.1 40 k) := by
  rw [show nI k = nI (0 + k) from congrArg nI (Nat.zero_add k).symm, aL_39 S (by omega), dp0_r S h]
theorem dp0_u (S : mT) {k : Nat} (h : k < 6) (x : Int32) : upd (dRow S) (0 + k) x = dRow (uA S 40 (upd (S.2.1 40) k x)) := by
  funext j
  show (if j = 0 + k then x else (if j < 6 then S.2.1 40 (j) else (if j < 12 then S.2.1 41 (j - 6) else (if j < 18 then S.2.1 42 (j - 12) else (if j < 24 then S.2.1 43 (j - 18) else (if j < 28 then S.2.1 45 (j - 24) else (if j < 32 then S.2.1 46 (j - 28) else (if j < 36 then S.2.1 47 (j - 32) else (if j = 36 then S.1 38 5 else (if j = 37 then S.1 38 6 else (if j = 38 then S.1 38 7 else 0))))))))))) = (if j < 6 then (if j = k then x else S.2.1 40 (j)) else (if j < 12 then S.2.1 41 (j - 6) else (if j < 18 then S.2.1 42 (j - 12) else (if j < 24 then S.2.1 43 (j - 18) else (if j < 28 then S.2.1 45 (j - 24) else (if j < 32 then S.2.1 46 (j - 28) else (if j < 36 then S.2.1 47 (j - 32) else (if j = 36 then S.1 38 5 else (if j = 37 then S.1 38 6 else (if j = 38 then S.1 38 7 else 0))))))))))
  repeat' split
  all_goals first | rfl | (exfalso; omega)
theorem dp0_S (S : mT) {k : Nat} (h : k < 6) (x : Int32) : aS (mk S) (some 39) (nI k) x = some (mk (uA S 40 (upd (S.2.1 40) k x))) := by
  have e := ix (k := 0 + k) (n := 39) (by omega) (by decide)
  rw [show nI k = nI (0 + k) from congrArg nI (Nat.zero_add k).symm]
  unfold aS
  rw [aG_39]
  simp only [e.1]
  rw [if_pos ⟨by omega, e.2⟩]
  exact congrArg some ((congrArg (fun f => (mk S).set 39 (.inr (.inl (39, f)))) (dp0_u S h x)).trans rfl)
theorem dp6_r (S : mT) {k : Nat} (h : k < 6) : dRow S (6 + k) = S.2.1 41 k := by
  generalize hj : 6 + k = j
  show (if j < 6 then S.2.1 40 (j) else (if j < 12 then S.2.1 41 (j - 6) else (if j < 18 then S.2.1 42 (j - 12) else (if j < 24 then S.2.1 43 (j - 18) else (if j < 28 then S.2.1 45 (j - 24) else (if j < 32 then S.2.1 46 (j - 28) else (if j < 36 then S.2.1 47 (j - 32) else (if j = 36 then S.1 38 5 else (if j = 37 then S.1 38 6 else (if j = 38 then S.1 38 7 else 0)))))))))) = _
  repeat' split
  all_goals first | (exfalso; omega) | exact congrArg (S.2.1 41) (by omega)
theorem dp6_L (S : mT) {k : Nat} (h : k < 6) : aL (mk S) (some 39) ((6 : Int32) + nI k) = some (S.2.1 41 k) := by
  rw [show (6 : Int32) + nI k = nI (6 + k) from n_add0 6 k, aL_39 S (by omega), dp6_r S h]
theorem dp6_u (S : mT) {k : Nat} (h : k < 6) (x : Int32) : upd (dRow S) (6 + k) x = dRow (uA S 41 (upd (S.2.1 41) k x)) := by
  funext j
  show (if j = 6 + k then x else (if j < 6 then S.2.1 40 (j) else (if j < 12 then S.2.1 41 (j - 6) else (if j < 18 then S.2.1 42 (j - 12) else (if j < 24 then S.2.1 43 (j - 18) else (if j < 28 then S.2.1 45 (j - 24) else (if j < 32 then S.2.1 46 (j - 28) else (if j < 36 then S.2.1 47 (j - 32) else (if j = 36 then S.1 38 5 else (if j = 37 then S.1 38 6 else (if j = 38 then S.1 38 7 else 0))))))))))) = (if j < 6 then S.2.1 40 (j) else (if j < 12 then (if j - 6 = k then x else S.2.1 41 (j - 6)) else (if j < 18 then S.2.1 42 (j - 12) else (if j < 24 then S.2.1 43 (j - 18) else (if j < 28 then S.2.1 45 (j - 24) else (if j < 32 then S.2.1 46 (j - 28) else (if j < 36 then S.2.1 47 (j - 32) else (if j = 36 then S.1 38 5 else (if j = 37 then S.1 38 6 else (if j = 38 then S.1 38 7 else 0))))))))))
  repeat' split
  all_goals first | rfl | (exfalso; omega)
theorem dp6_S (S : mT) {k : Nat} (h : k < 6) (x : Int32) : aS (mk S) (some 39) ((6 : Int32) + nI k) x = some (mk (uA S 41 (upd (S.2.1 41) k x))) := by
  have e := ix (k := 6 + k) (n := 39) (by omega) (by decide)
  rw [show (6 : Int32) + nI k = nI (6 + k) from n_add0 6 k]
  unfold aS
  rw [aG_39]
  simp only [e.1]
  rw [if_pos ⟨by omega, e.2⟩]
  exact congrArg some ((congrArg (fun f => (mk S).set 39 (.inr (.inl (39, f)))) (dp6_u S h x)).trans rfl)
theorem dp12_r (S : mT) {k : Nat} (h : k < 6) : dRow S (12 + k) = S.2.1 42 k := by
  generalize hj : 12 + k = j
  show (if j < 6 then S.2.1 40 (j) else (if j < 12 then S.2.1 41 (j - 6) else (if j < 18 then S.2.1 42 (j - 12) else (if j < 24 then S.2.1 43 (j - 18) else (if j < 28 then S.2.1 45 (j - 24) else (if j < 32 then S.2.1 46 (j - 28) else (if j < 36 then S.2.1 47 (j - 32) else (if j = 36 then S.1 38 5 else (if j = 37 then S.1 38 6 else (if j = 38 then S.1 38 7 else 0)))))))))) = _
  repeat' split
  all_goals first | (exfalso; omega) | exact congrArg (S.2.1 42) (by omega)
theorem dp12_L (S : mT) {k : Nat} (h : k < 6) : aL (mk S) (some 39) ((12 : Int32) + nI k) = some (S.2.1 42 k) := by
  rw [show (12 : Int32) + nI k = nI (12 + k) from n_add0 12 k, aL_39 S (by omega), dp12_r S h]
theorem dp12_u (S : mT) {k : Nat} (h : k < 6) (x : Int32) : upd (dRow S) (12 + k) x = dRow (uA S 42 (upd (S.2.1 42) k x)) := by
  funext j
  show (if j = 12 + k then x else (if j < 6 then S.2.1 40 (j) else (if j < 12 then S.2.1 41 (j - 6) else (if j < 18 then S.2.1 42 (j - 12) else (if j < 24 then S.2.1 43 (j - 18) else (if j < 28 then S.2.1 45 (j - 24) else (if j < 32 then S.2.1 46 (j - 28) else (if j < 36 then S.2.1 47 (j - 32) else (if j = 36 then S.1 38 5 else (if j = 37 then S.1 38 6 else (if j = 38 then S.1 38 7 else 0))))))))))) = (if j < 6 then S.2.1 40 (j) else (if j < 12 then S.2.1 41 (j - 6) else (if j < 18 then (if j - 12 = k then x else S.2.1 42 (j - 12)) else (if j < 24 then S.2.1 43 (j - 18) else (if j < 28 then S.2.1 45 (j - 24) else (if j < 32 then S.2.1 46 (j - 28) else (if j < 36 then S.2.1 47 (j - 32) else (if j = 36 then S.1 38 5 else (if j = 37 then S.1 38 6 else (if j = 38 then S.1 38 7 else 0))))))))))
  repeat' split
  all_goals first | rfl | (exfalso; omega)
theorem dp12_S (S : mT) {k : Nat} (h : k < 6) (x : Int32) : aS (mk S) (some 39) ((12 : Int32) + nI k) x = some (mk (uA S 42 (upd (S.2.1 42) k x))) := by
  have e := ix (k := 12 + k) (n := 39) (by omega) (by decide)
  rw [show (12 : Int32) + nI k = nI (12 + k) from n_add0 12 k]
  unfold aS
  rw [aG_39]
  simp only [e.1]
  rw [if_pos ⟨by omega, e.2⟩]
  exact congrArg some ((congrArg (fun f => (mk S).set 39 (.inr (.inl (39, f)))) (dp12_u S h x)).trans rfl)
theorem dp18_r (S : mT) {k : Nat} (h : k < 6) : dRow S (18 + k) = S.2.1 43 k := by
  generalize hj : 18 + k = j
  show (if j < 6 then S.2.1 40 (j) else (if j < 12 then S.2.1 41 (j - 6) else (if j < 18 then S.2.1 42 (j - 12) else (if j < 24 then S.2.1 43 (j - 18) else (if j < 28 then S.2.1 45 (j - 24) else (if j < 32 then S.2.1 46 (j - 28) else (if j < 36 then S.2.1 47 (j - 32) else (if j = 36 then S.1 38 5 else (if j = 37 then S.1 38 6 else (if j = 38 then S.1 38 7 else 0)))))))))) = _
  repeat' split
  all_goals first | (exfalso; omega) | exact congrArg (S.2.1 43) (by omega)
theorem dp18_L (S : mT) {k : Nat} (h : k < 6) : aL (mk S) (some 39) ((18 : Int32) + nI k) = some (S.2.1 43 k) := by
  rw [show (18 : Int32) + nI k = nI (18 + k) from n_add0 18 k, aL_39 S (by omega), dp18_r S h]
theorem dp18_u (S : mT) {k : Nat} (h : k < 6) (x : Int32) : upd (dRow S) (18 + k) x = dRow (uA S 43 (upd (S.2.1 43) k x)) := by
  funext j
  show (if j = 18 + k then x else (if j < 6 then S.2.1 40 (j) else (if j < 12 then S.2.1 41 (j - 6) else (if j < 18 then S.2.1 42 (j - 12) else (if j < 24 then S.2.1 43 (j - 18) else (if j < 28 then S.2.1 45 (j - 24) else (if j < 32 then S.2.1 46 (j - 28) else (if j < 36 then S.2.1 47 (j - 32) else (if j = 36 then S.1 38 5 else (if j = 37 then S.1 38 6 else (if j = 38 then S.1 38 7 else 0))))))))))) = (if j < 6 then S.2.1 40 (j) else (if j < 12 then S.2.1 41 (j - 6) else (if j < 18 then S.2.1 42 (j - 12) else (if j < 24 then (if j - 18 = k then x else S.2.1 43 (j - 18)) else (if j < 28 then S.2.1 45 (j - 24) else (if j < 32 then S.2.1 46 (j - 28) else (if j < 36 then S.2.1 47 (j - 32) else (if j = 36 then S.1 38 5 else (if j = 37 then S.1 38 6 else (if j = 38 then S.1 38 7 else 0))))))))))
  repeat' split
  all_goals first | rfl | (exfalso; omega)
theorem dp18_S (S : mT) {k : Nat} (h : k < 6) (x : Int32) : aS (mk S) (some 39) ((18 : Int32) + nI k) x = some (mk (uA S 43 (upd (S.2.1 43) k x))) := by
  have e := ix (k := 18 + k) (n := 39) (by omega) (by decide)
  rw [show (18 : Int32) + nI k = nI (18 + k) from n_add0 18 k]
  unfold aS
  rw [aG_39]
  simp only [e.1]
  rw [if_pos ⟨by omega, e.2⟩]
  exact congrArg some ((congrArg (fun f => (mk S).set 39 (.inr (.inl (39, f)))) (dp18_u S h x)).trans rfl)
theorem dp24_r (S : mT) {k : Nat} (h : k < 4) : dRow S (24 + k) = S.2.1 45 k := by
  generalize hj : 24 + k = j
  show (if j < 6 then S.2.1 40 (j) else (if j < 12 then S.2.1 41 (j - 6) else (if j < 18 then S.2.1 42 (j - 12) else (if j < 24 then S.2.1 43 (j - 18) else (if j < 28 then S.2.1 45 (j - 24) else (if j < 32 then S.2.1 46 (j - 28) else (if j < 36 then S.2.1 47 (j - 32) else (if j = 36 then S.1 38 5 else (if j = 37 then S.1 38 6 else (if j = 38 then S.1 38 7 else 0)))))))))) = _
  repeat' split
  all_goals first | (exfalso; omega) | exact congrArg (S.2.1 45) (by omega)
theorem dp24_L (S : mT) {k : Nat} (h : k < 4) : aL (mk S) (some 39) ((24 : Int32) + nI k) = some (S.2.1 45 k) := by
  rw [show (24 : Int32) + nI k = nI (24 + k) from n_add0 24 k, aL_39 S (by omega), dp24_r S h]
theorem dp24_u (S : mT) {k : Nat} (h : k < 4) (x : Int32) : upd (dRow S) (24 + k) x = dRow (uA S 45 (upd (S.2.1 45) k x)) := by
  funext j
  show (if j = 24 + k then x else (if j < 6 then S.2.1 40 (j) else (if j < 12 then S.2.1 41 (j - 6) else (if j < 18 then S.2.1 42 (j - 12) else (if j < 24 then S.2.1 43 (j - 18) else (if j < 28 then S.2.1 45 (j - 24) else (if j < 32 then S.2.1 46 (j - 28) else (if j < 36 then S.2.1 47 (j - 32) else (if j = 36 then S.1 38 5 else (if j = 37 then S.1 38 6 else (if j = 38 then S.1 38 7 else 0))))))))))) = (if j < 6 then S.2.1 40 (j) else (if j < 12 then S.2.1 41 (j - 6) else (if j < 18 then S.2.1 42 (j - 12) else (if j < 24 then S.2.1 43 (j - 18) else (if j < 28 then (if j - 24 = k then x else S.2.1 45 (j - 24)) else (if j < 32 then S.2.1 46 (j - 28) else (if j < 36 then S.2.1 47 (j - 32) else (if j = 36 then S.1 38 5 else (if j = 37 then S.1 38 6 else (if j = 38 then S.1 38 7 else 0))))))))))
  repeat' split
  all_goals first | rfl | (exfalso; omega)
theorem dp24_S (S : mT) {k : Nat} (h : k < 4) (x : Int32) : aS (mk S) (some 39) ((24 : Int32) + nI k) x = some (mk (uA S 45 (upd (S.2.1 45) k x))) := by
  have e := ix (k := 24 + k) (n := 39) (by omega) (by decide)
  rw [show (24 : Int32) + nI k = nI (24 + k) from n_add0 24 k]
  unfold aS
  rw [aG_39]
  simp only [e.1]
  rw [if_pos ⟨by omega, e.2⟩]
  exact congrArg some ((congrArg (fun f => (mk S).set 39 (.inr (.inl (39, f)))) (dp24_u S h x)).trans rfl)
theorem dp28_r (S : mT) {k : Nat} (h : k < 4) : dRow S (28 + k) = S.2.1 46 k := by
  generalize hj : 28 + k = j
  show (if j < 6 then S.2.1 40 (j) else (if j < 12 then S.2.1 41 (j - 6) else (if j < 18 then S.2.1 42 (j - 12) else (if j < 24 then S.2.1 43 (j - 18) else (if j < 28 then S.2.1 45 (j - 24) else (if j < 32 then S.2.1 46 (j - 28) else (if j < 36 then S.2.1 47 (j - 32) else (if j = 36 then S.1 38 5 else (if j = 37 then S.1 38 6 else (if j = 38 then S.1 38 7 else 0)))))))))) = _
  repeat' split
  all_goals first | (exfalso; omega) | exact congrArg (S.2.1 46) (by omega)
theorem dp28_L (S : mT) {k : Nat} (h : k < 4) : aL (mk S) (some 39) ((28 : Int32) + nI k) = some (S.2.1 46 k) := by
  rw [show (28 : Int32) + nI k = nI (28 + k) from n_add0 28 k, aL_39 S (by omega), dp28_r S h]
theorem dp28_u (S : mT) {k : Nat} (h : k < 4) (x : Int32) : upd (dRow S) (28 + k) x = dRow (uA S 46 (upd (S.2.1 46) k x)) := by
  funext j
  show (if j = 28 + k then x else (if j < 6 then S.2.1 40 (j) else (if j < 12 then S.2.1 41 (j - 6) else (if j < 18 then S.2.1 42 (j - 12) else (if j < 24 then S.2.1 43 (j - 18) else (if j < 28 then S.2.1 45 (j - 24) else (if j < 32 then S.2.1 46 (j - 28) else (if j < 36 then S.2.1 47 (j - 32) else (if j = 36 then S.1 38 5 else (if j = 37 then S.1 38 6 else (if j = 38 then S.1 38 7 else 0))))))))))) = (if j < 6 then S.2.1 40 (j) else (if j < 12 then S.2.1 41 (j - 6) else (if j < 18 then S.2.1 42 (j - 12) else (if j < 24 then S.2.1 43 (j - 18) else (if j < 28 then S.2.1 45 (j - 24) else (if j < 32 then (if j - 28 = k then x else S.2.1 46 (j - 28)) else (if j < 36 then S.2.1 47 (j - 32) else (if j = 36 then S.1 38 5 else (if j = 37 then S.1 38 6 else (if j = 38 then S.1 38 7 else 0))))))))))
  repeat' split
  all_goals first | rfl | (exfalso; omega)
theorem dp28_S (S : mT) {k : Nat} (h : k < 4) (x : Int32) : aS (mk S) (some 39) ((28 : Int32) + nI k) x = some (mk (uA S 46 (upd (S.2.1 46) k x))) := by
  have e := ix (k := 28 + k) (n := 39) (by omega) (by decide)
  rw [show (28 : Int32) + nI k = nI (28 + k) from n_add0 28 k]
  unfold aS
  rw [aG_39]
  simp only [e.1]
  rw [if_pos ⟨by omega, e.2⟩]
  exact congrArg some ((congrArg (fun f => (mk S).set 39 (.inr (.inl (39, f)))) (dp28_u S h x)).trans rfl)
theorem dp32_r (S : mT) {k : Nat} (h : k < 4) : dRow S (32 + k) = S.2.1 47 k := by
  generalize hj : 32 + k = j
  show (if j < 6 then S.2.1 40 (j) else (if j < 12 then S.2.1 41 (j - 6) else (if j < 18 then S.2.1 42 (j - 12) else (if j < 24 then S.2.1 43 (j - 18) else (if j < 28 then S.2.1 45 (j - 24) else (if j < 32 then S.2.1 46 (j - 28) else (if j < 36 then S.2.1 47 (j - 32) else (if j = 36 then S.1 38 5 else (if j = 37 then S.1 38 6 else (if j = 38 then S.1 38 7 else 0)))))))))) = _
  repeat' split
  all_goals first | (exfalso; omega) | exact congrArg (S.2.1 47) (by omega)
theorem dp32_L (S : mT) {k : Nat} (h : k < 4) : aL (mk S) (some 39) ((32 : Int32) + nI k) = some (S.2.1 47 k) := by
  rw [show (32 : Int32) + nI k = nI (32 + k) from n_add0 32 k, aL_39 S (by omega), dp32_r S h]
theorem dp32_u (S : mT) {k : Nat} (h : k < 4) (x : Int32) : upd (dRow S) (32 + k) x = dRow (uA S 47 (upd (S.2.1 47) k x)) := by
  funext j
  show (if j = 32 + k then x else (if j < 6 then S.2.1 40 (j) else (if j < 12 then S.2.1 41 (j - 6) else (if j < 18 then S.2.1 42 (j - 12) else (if j < 24 then S.2.1 43 (j - 18) else (if j < 28 then S.2.1 45 (j - 24) else (if j < 32 then S.2.1 46 (j - 28) else (if j < 36 then S.2.1 47 (j - 32) else (if j = 36 then S.1 38 5 else (if j = 37 then S.1 38 6 else (if j = 38 then S.1 38 7 else 0))))))))))) = (if j < 6 then S.2.1 40 (j) else (if j < 12 then S.2.1 41 (j - 6) else (if j < 18 then S.2.1 42 (j - 12) else (if j < 24 then S.2.1 43 (j - 18) else (if j < 28 then S.2.1 45 (j - 24) else (if j < 32 then S.2.1 46 (j - 28) else (if j < 36 then (if j - 32 = k then x else S.2.1 47 (j - 32)) else (if j = 36 then S.1 38 5 else (if j = 37 then S.1 38 6 else (if j = 38 then S.1 38 7 else 0))))))))))
  repeat' split
  all_goals first | rfl | (exfalso; omega)
theorem dp32_S (S : mT) {k : Nat} (h : k < 4) (x : Int32) : aS (mk S) (some 39) ((32 : Int32) + nI k) x = some (mk (uA S 47 (upd (S.2.1 47) k x))) := by
  have e := ix (k := 32 + k) (n := 39) (by omega) (by decide)
  rw [show (32 : Int32) + nI k = nI (32 + k) from n_add0 32 k]
  unfold aS
  rw [aG_39]
  simp only [e.1]
  rw [if_pos ⟨by omega, e.2⟩]
  exact congrArg some ((congrArg (fun f => (mk S).set 39 (.inr (.inl (39, f)))) (dp32_u S h x)).trans rfl)
theorem d36_r (S : mT) : dRow S 36 = S.1 38 5 := rfl
theorem d36_L (S : mT) : aL (mk S) (some 39) (36 : Int32) = some (S.1 38 5) := aL_39 S (k := 36) (by decide)
theorem d36_u (S : mT) (x : Int32) : upd (dRow S) 36 x = dRow (uI S 38 5 x) := by
  funext j
  show (if j = 36 then x else (if j < 6 then S.2.1 40 (j) else (if j < 12 then S.2.1 41 (j - 6) else (if j < 18 then S.2.1 42 (j - 12) else (if j < 24 then S.2.1 43 (j - 18) else (if j < 28 then S.2.1 45 (j - 24) else (if j < 32 then S.2.1 46 (j - 28) else (if j < 36 then S.2.1 47 (j - 32) else (if j = 36 then S.1 38 5 else (if j = 37 then S.1 38 6 else (if j = 38 then S.1 38 7 else 0))))))))))) = (if j < 6 then S.2.1 40 (j) else (if j < 12 then S.2.1 41 (j - 6) else (if j < 18 then S.2.1 42 (j - 12) else (if j < 24 then S.2.1 43 (j - 18) else (if j < 28 then S.2.1 45 (j - 24) else (if j < 32 then S.2.1 46 (j - 28) else (if j < 36 then S.2.1 47 (j - 32) else (if j = 36 then x else (if j = 37 then S.1 38 6 else (if j = 38 then S.1 38 7 else 0))))))))))
  repeat' split
  all_goals first | rfl | (exfalso; omega)
theorem d36_S (S : mT) (x : Int32) : aS (mk S) (some 39) (36 : Int32) x = some (mk (uI S 38 5 x)) := by
  have e := ix (k := 36) (n := 39) (by decide) (by decide)
  show aS (mk S) (some 39) (nI 36) x = _
  unfold aS
  rw [aG_39]
  simp only [e.1]
  rw [if_pos ⟨by decide, e.2⟩]
  exact congrArg some ((congrArg (fun f => (mk S).set 39 (.inr (.inl (39, f)))) (d36_u S x)).trans rfl)
theorem d37_r (S : mT) : dRow S 37 = S.1 38 6 := rfl
theorem d37_L (S : mT) : aL (mk S) (some 39) (37 : Int32) = some (S.1 38 6) := aL_39 S (k := 37) (by decide)
theorem d37_u (S : mT) (x : Int32) : upd (dRow S) 37 x = dRow (uI S 38 6 x) := by
  funext j
  show (if j = 37 then x else (if j < 6 then S.2.1 40 (j) else (if j < 12 then S.2.1 41 (j - 6) else (if j < 18 then S.2.1 42 (j - 12) else (if j < 24 then S.2.1 43 (j - 18) else (if j < 28 then S.2.1 45 (j - 24) else (if j < 32 then S.2.1 46 (j - 28) else (if j < 36 then S.2.1 47 (j - 32) else (if j = 36 then S.1 38 5 else (if j = 37 then S.1 38 6 else (if j = 38 then S.1 38 7 else 0))))))))))) = (if j < 6 then S.2.1 40 (j) else (if j < 12 then S.2.1 41 (j - 6) else (if j < 18 then S.2.1 42 (j - 12) else (if j < 24 then S.2.1 43 (j - 18) else (if j < 28 then S.2.1 45 (j - 24) else (if j < 32 then S.2.1 46 (j - 28) else (if j < 36 then S.2.1 47 (j - 32) else (if j = 36 then S.1 38 5 else (if j = 37 then x else (if j = 38 then S.1 38 7 else 0))))))))))
  repeat' split
  all_goals first | rfl | (exfalso; omega)
theorem d37_S (S : mT) (x : Int32) : aS (mk S) (some 39) (37 : Int32) x = some (mk (uI S 38 6 x)) := by
  have e := ix (k := 37) (n := 39) (by decide) (by decide)
  show aS (mk S) (some 39) (nI 37) x = _
  unfold aS
  rw [aG_39]
  simp only [e.1]
  rw [if_pos ⟨by decide, e.2⟩]
  exact congrArg some ((congrArg (fun f => (mk S).set 39 (.inr (.inl (39, f)))) (d37_u S x)).trans rfl)
theorem d38_r (S : mT) : dRow S 38 = S.1 38 7 := rfl
theorem d38_L (S : mT) : aL (mk S) (some 39) (38 : Int32) = some (S.1 38 7) := aL_39 S (k := 38) (by decide)
theorem d38_u (S : mT) (x : Int32) : upd (dRow S) 38 x = dRow (uI S 38 7 x) := by
  funext j
  show (if j = 38 then x else (if j < 6 then S.2.1 40 (j) else (if j < 12 then S.2.1 41 (j - 6) else (if j < 18 then S.2.1 42 (j - 12) else (if j < 24 then S.2.1 43 (j - 18) else (if j < 28 then S.2.1 45 (j - 24) else (if j < 32 then S.2.1 46 (j - 28) else (if j < 36 then S.2.1 47 (j - 32) else (if j = 36 then S.1 38 5 else (if j = 37 then S.1 38 6 else (if j = 38 then S.1 38 7 else 0))))))))))) = (if j < 6 then S.2.1 40 (j) else (if j < 12 then S.2.1 41 (j - 6) else (if j < 18 then S.2.1 42 (j - 12) else (if j < 24 then S.2.1 43 (j - 18) else (if j < 28 then S.2.1 45 (j - 24) else (if j < 32 then S.2.1 46 (j - 28) else (if j < 36 then S.2.1 47 (j - 32) else (if j = 36 then S.1 38 5 else (if j = 37 then S.1 38 6 else (if j = 38 then x else 0))))))))))
  repeat' split
  all_goals first | rfl | (exfalso; omega)
theorem d38_S (S : mT) (x : Int32) : aS (mk S) (some 39) (38 : Int32) x = some (mk (uI S 38 7 x)) := by
  have e := ix (k := 38) (n := 39) (by decide) (by decide)
  show aS (mk S) (some 39) (nI 38) x = _
  unfold aS
  rw [aG_39]
  simp only [e.1]
  rw [if_pos ⟨by decide, e.2⟩]
  exact congrArg some ((congrArg (fun f => (mk S).set 39 (.inr (.inl (39, f)))) (d38_u S x)).trans rfl)
theorem rN_8 (S : mT) : rN (mk S) (some 8) = some 4 := id rfl
theorem rL_8 (S : mT) {k : Nat} (h : k < 4) : rL (mk S) (some 8) (nI k) = some (S.2.2.1 k) := by
  have e := ix h (by decide)
  unfold rL
  rw [show rG (mk S) (some 8) = some (4, S.2.2.1) from rfl]
  simp only [e.1]
  rw [if_pos ⟨h, e.2⟩]
theorem bS {α β : Type} {a : α} {f : α → Option β} : Option.bind (some a) f = f a := id rfl
theorem oC_s {α : Type} {x : Nat} {a : α} {b : Nat → α} : oC (some x) a b = b x := id rfl
theorem oC_n {α : Type} {a : α} {b : Nat → α} : oC none a b = a := id rfl
theorem uX_mk (S : mT) (c : mC) : mk S ++ [c] = mk (uX S c) := id rfl
theorem mk_len (S : mT) : (mk S).length = 41 + S.2.2.2.2.length := by unfold mk; simp only [List.length_cons]; omega
