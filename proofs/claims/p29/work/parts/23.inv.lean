-- what class and reference have in common between two calls
def rNow : Nat → Nat := fun k => match k with
  | 0 => 40 | 1 => 41 | 2 => 42 | 3 => 43 | 4 => 45 | 5 => 46 | 6 => 47 | _ => 51
def NCells (S : mT) (n o : Nat) (R : Nat → Nat) : Prop := ∀ i, i < n → S.2.1 (o + 1) i = S.2.1 (R 0) i ∧ ∃ q : Nat, q < 36 ∧ S.2.1 (R 0) i = nI q
def cvB (S : mT) (a : Nat) : Nat → Bool := fun i => decide (S.2.1 a i = 1)
def cls (kd : Nat) : Nat := match kd with
  | 0 => 8 | 1 => 0 | 2 => 9 | 3 => 7 | _ => 1
def KR (S : mT) (t : Nat) : Prop := ∀ j, j < t → ∃ kd e : Nat, kd ≤ 4 ∧ S.2.1 44 j = nI kd ∧ S.2.2.1 j = some (e + 41) ∧ S.2.2.2.2[e]? = some (.inl (cls kd, []))
-- scratch: what no later call reads
def okI (o k : Nat) : Bool := !(Nat.beq o 3 || Nat.beq o 31 || (Nat.beq o 38 && (Nat.beq k 2 || Nat.beq k 21 || Nat.beq k 24)))
def okA (a : Nat) : Bool := !((Nat.ble 4 a && Nat.ble a 7) || (Nat.ble 32 a && Nat.ble a 37) || (Nat.ble 48 a && Nat.ble a 50))
def ob (S : mT) : mT := (fun o k => if okI o k = true then S.1 o k else 0, fun a => if okA a = true then S.2.1 a else fun _ => 0, S.2.2.1, 0, S.2.2.2.2)
theorem ob_I {S : mT} {o k : Nat} {x : Int32} (h : okI o k = false) : ob (uI S o k x) = ob S := by
  unfold ob
  refine Prod.ext (funext fun o' => funext fun k' => ?_) rfl
  show (if okI o' k' = true then (if o' = o ∧ k' = k then x else S.1 o' k') else 0) = (if okI o' k' = true then S.1 o' k' else 0)
  by_cases hk : o' = o ∧ k' = k
  · have hz : ¬ okI o' k' = true := by rw [hk.1, hk.2, h]; decide
    rw [if_neg hz, if_neg hz]
  · rw [if_neg hk]
theorem ob_A {S : mT} {a : Nat} {f : Nat → Int32} (h : okA a = false) : ob (uA S a f) = ob S := by
  unfold ob
  refine Prod.ext rfl (Prod.ext (funext fun a' => ?_) rfl)
  show (if okA a' = true then (if a' = a then f else S.2.1 a') else fun _ => 0) = (if okA a' = true then S.2.1 a' else fun _ => 0)
  by_cases hk : a' = a
  · have hz : ¬ okA a' = true := by rw [hk, h]; decide
    rw [if_neg hz, if_neg hz]
  · rw [if_neg hk]
theorem ob_L {S : mT} {x : Int64} : ob (uL S x) = ob S := rfl
theorem kind_ix {S : mT} {e : Nat} : (mk S)[e + 41]? = S.2.2.2.2[e]? := rfl
theorem cls_ok : ∀ kd, kd ≤ 4 → (cls kd = 8 ∨ cls kd = 0 ∨ cls kd = 9 ∨ cls kd = 7 ∨ cls kd = 1) := by
  intro kd h
  match kd, h with
  | 0, _ => decide
  | 1, _ => decide
  | 2, _ => decide
  | 3, _ => decide
  | 4, _ => decide
theorem s_tO {S : mT} {kd e : Nat} (hk : kd ≤ 4) (h : S.2.2.2.2[e]? = some (.inl (cls kd, []))) : tO (mk S) (some (e + 41)) = some (cls kd) := by
  unfold tO
  simp only [kind_ix, h]
  rw [if_pos (cls_ok kd hk)]
-- 2 letter
theorem c_letter {S : mT} {L : Nat} (hL : L ≤ 36) (e : S.1 1 1 = nI L) (v : Int32) : f_X10_letter 0 v (mk S) = some (if v.toInt < 1 ∨ 126 < v.toInt then (-102, mk S) else if L = 36 then (-104, mk S) else (nI (L + 1), mk (uI (uA S 2 (upd (S.2.1 2) L v)) 1 1 (nI (L + 1))))) := by
  simp only [f_X10_letter, f_X10_letter_J11, f_X3_append, rR_0_0, rR_0_1, rR_0_2, rR_0_3, rR_0_4, rR_0_5, rR_0_6, rR_1_0, rR_3_0, rR_3_1, rR_3_2, rR_3_3, rR_9_0, rR_9_1, rR_9_2, rR_9_3, rR_9_4, rR_9_5, rR_9_6, rR_16_0, rR_16_1, rR_16_2, rR_20_0, rR_20_1, rR_20_2, rR_20_3, rR_20_4, rR_20_5, rR_20_6, rR_27_0, rR_27_1, rR_27_2, rR_31_0, rR_31_1, rR_31_2, rR_31_3, rR_31_4, kk_0, kk_1, kk_3, kk_9, kk_16, kk_20, kk_27, kk_31, rI_0_7, rI_0_8, rI_0_9, rI_0_10, rI_1_1, rI_3_4, rI_3_5, rI_3_6, rI_3_7, rI_9_7, rI_9_8, rI_9_9, rI_9_10, rI_9_11, rI_16_3, rI_20_7, rI_20_8, rI_20_9, rI_20_10, rI_20_11, rI_27_3, rI_31_5, rI_31_6, bS, lt_T, le_T, e]
  rw [show (1 : Int32).toInt = 1 from rfl, show (126 : Int32).toInt = 126 from rfl, show (36 : Int32).toInt = 36 from rfl, nT (by omega)]
  by_cases h1 : v.toInt < 1
  · rw [if_pos h1, if_pos (Or.inl h1)]
  · rw [if_neg h1]
    by_cases h2 : v.toInt ≤ 126
    · rw [if_pos h2, if_neg (show ¬ (v.toInt < 1 ∨ 126 < v.toInt) by omega)]
      by_cases h3 : L = 36
      · rw [if_neg (show ¬ ((L : Int) < 36) by omega), if_pos h3]
      · rw [if_pos (show ((L : Int) < 36) by omega), if_neg h3, s_put (aG_2 S) (by decide) (by omega), aW_2]
        simp only [rR_0_0, rR_0_1, rR_0_2, rR_0_3, rR_0_4, rR_0_5, rR_0_6, rR_1_0, rR_3_0, rR_3_1, rR_3_2, rR_3_3, rR_9_0, rR_9_1, rR_9_2, rR_9_3, rR_9_4, rR_9_5, rR_9_6, rR_16_0, rR_16_1, rR_16_2, rR_20_0, rR_20_1, rR_20_2, rR_20_3, rR_20_4, rR_20_5, rR_20_6, rR_27_0, rR_27_1, rR_27_2, rR_31_0, rR_31_1, rR_31_2, rR_31_3, rR_31_4, kk_0, kk_1, kk_3, kk_9, kk_16, kk_20, kk_27, kk_31, rI_0_7, rI_0_8, rI_0_9, rI_0_10, rI_1_1, rI_3_4, rI_3_5, rI_3_6, rI_3_7, rI_9_7, rI_9_8, rI_9_9, rI_9_10, rI_9_11, rI_16_3, rI_20_7, rI_20_8, rI_20_9, rI_20_10, rI_20_11, rI_27_3, rI_31_5, rI_31_6, bS, wI_0_7, wI_0_8, wI_0_9, wI_1_1, wI_3_4, wI_3_5, wI_3_6, wI_3_7, wI_9_7, wI_9_8, wI_9_9, wI_9_10, wI_9_11, wI_16_3, wI_20_7, wI_20_8, wI_20_9, wI_20_10, wI_20_11, wI_27_3, wI_31_5, wI_31_6, uA_1, e, nI_1]
        rfl
    · rw [if_neg h2, if_pos (by omega)]
def NMeals (S : mT) (n : Nat) : Prop := ∀ i, i < 6 → (i < n → S.2.1 11 i = S.2.1 42 i ∧ S.2.1 12 i = S.2.1 43 i) ∧ (n ≤ i → S.2.1 11 i = 0 ∧ S.2.1 12 i = 0)
def NCov (S : mT) (n : Nat) : Prop := (∀ i, i < n → S.2.1 41 i = 0 ∨ S.2.1 41 i = 1) ∧ S.1 9 7 = nI (bN (cvB S 41) n)
def NTurn (S : mT) (t o : Nat) (R : Nat → Nat) : Prop := ∀ j, j < t → S.2.1 (o + 4) j = S.2.1 (R 4) j ∧ S.2.1 (o + 5) j = S.2.1 (R 5) j ∧ ∃ a b : Nat, a ≤ 4 ∧ b ≤ 4 ∧ S.2.1 (R 4) j = nI a ∧ S.2.1 (R 5) j = nI b
def NThr (S : mT) (t : Nat) : Prop := (∀ j, j < t → S.2.1 15 j = S.2.1 47 j) ∧ S.1 9 11 = it (fun k x => x + S.2.1 47 k) t 0
def NNum (S : mT) (m : Nat) : Prop := (S.1 9 8 = S.1 38 5 ∧ (S.1 38 5 = -1 ∨ S.1 38 5 = 0 ∨ S.1 38 5 = 1)) ∧ S.1 9 9 = S.1 38 6 ∧ (S.1 9 10 = S.1 38 7 ∧ ∃ x : Nat, x ≤ m ∧ S.1 38 7 = nI x) ∧ ∃ x : Nat, x ≤ m ∧ S.1 9 11 = nI x
/-- class and law between two steps, after m of them, with q rows for sums made -/
def Inv (n t m q : Nat) (S : mT) : Prop := ((1 ≤ n ∧ n ≤ 6) ∧ (1 ≤ t ∧ t ≤ 4) ∧ m ≤ 30 ∧ S.2.2.2.2.length ≤ 4 + q ∧ mSz S.2.2.2.2 ≤ 4 * q) ∧
  (S.1 0 7 = nI n ∧ S.1 38 3 = nI n ∧ S.1 0 8 = nI t ∧ S.1 38 4 = nI t) ∧ KR S t ∧ NCells S n 9 rNow ∧ NMeals S n ∧ NCov S n ∧ NTurn S t 9 rNow ∧ NThr S t ∧ NNum S m
