-- what class and reference have in common between two calls
def rNow : Nat → Nat := fun k => match k with
  | 0 => 40 | 1 => 41 | 2 => 42 | 3 => 43 | 4 => 45 | 5 => 46 | 6 => 47 | _ => 51
def rKept : Nat → Nat := fun k => match k with
  | 0 => 52 | 1 => 53 | 2 => 54 | 3 => 55 | 4 => 56 | 5 => 57 | 6 => 58 | _ => 59
def qNow : Nat → Nat := fun k => match k with
  | 0 => 5 | 1 => 6 | 2 => 7 | 3 => 8 | _ => 22
def qKept : Nat → Nat := fun k => match k with
  | 0 => 26 | 1 => 27 | 2 => 28 | 3 => 29 | _ => 30
/-- what was seen -/
def NSeen (S : mT) (o : Nat) (R Q : Nat → Nat) : Prop := ∃ c : Nat, c ≤ 6 ∧ S.1 (o + 7) 3 = nI c ∧ S.1 38 (Q 4) = nI c ∧ ∀ i, i < c → S.2.1 (o + 8) i = S.2.1 (R 7) (3 * i) ∧ S.2.1 (o + 9) i = S.2.1 (R 7) (3 * i + 1) ∧ S.2.1 (o + 10) i = S.2.1 (R 7) (3 * i + 2)
def NCells (S : mT) (n o : Nat) (R : Nat → Nat) : Prop := ∀ i, i < n → S.2.1 (o + 1) i = S.2.1 (R 0) i ∧ ∃ q : Nat, q < 36 ∧ S.2.1 (R 0) i = nI q
def NMeals (S : mT) (n o : Nat) (R : Nat → Nat) : Prop := ∀ i, i < 6 → (i < n → S.2.1 (o + 2) i = S.2.1 (R 2) i ∧ S.2.1 (o + 3) i = S.2.1 (R 3) i) ∧ (n ≤ i → S.2.1 (o + 2) i = 0 ∧ S.2.1 (o + 3) i = 0)
def cvB (S : mT) (a : Nat) : Nat → Bool := fun i => decide (S.2.1 a i = 1)
def NCov (S : mT) (n o : Nat) (R : Nat → Nat) : Prop := (∀ i, i < n → S.2.1 (R 1) i = 0 ∨ S.2.1 (R 1) i = 1) ∧ S.1 o 7 = nI (bN (cvB S (R 1)) n)
def NTurn (S : mT) (t o : Nat) (R : Nat → Nat) : Prop := ∀ j, j < t → S.2.1 (o + 4) j = S.2.1 (R 4) j ∧ S.2.1 (o + 5) j = S.2.1 (R 5) j ∧ S.2.1 (o + 6) j = S.2.1 (R 6) j
def NNum (S : mT) (o : Nat) (Q : Nat → Nat) : Prop := S.1 o 8 = S.1 38 (Q 0) ∧ S.1 o 9 = S.1 38 (Q 1) ∧ (S.1 o 10 = S.1 38 (Q 2) ∧ ∃ x : Nat, x ≤ 999 ∧ S.1 38 (Q 2) = nI x) ∧ (S.1 o 11 = S.1 38 (Q 3) ∧ ∃ x : Nat, x ≤ 999 ∧ S.1 38 (Q 3) = nI x)
def NR (S : mT) (n t o : Nat) (R Q : Nat → Nat) : Prop := NSeen S o R Q ∧ NCells S n o R ∧ NMeals S n o R ∧ NCov S n o R ∧ NTurn S t o R ∧ NNum S o Q
def cls (kd : Nat) : Nat := match kd with
  | 0 => 8 | 1 => 0 | 2 => 9 | 3 => 7 | _ => 1
def KR (S : mT) (t : Nat) : Prop := ∀ j, j < t → ∃ kd e : Nat, kd ≤ 4 ∧ S.2.1 44 j = nI kd ∧ S.2.2.1 j = some (e + 60) ∧ S.2.2.2.2[e]? = some (.inl (cls kd, []))
def PR (S : mT) (L : Nat) : Prop := ∀ i, i < L → S.2.1 2 i = S.2.1 39 i ∧ ∃ c : Nat, c < 127 ∧ S.2.1 39 i = nI c
def IR (S : mT) (n t p : Nat) : Prop := (S.1 0 10 = 1 ∧ S.1 38 25 = nI p ∧ NR S n t 20 rKept qKept) ∨ (S.1 0 10 = 0 ∧ (S.1 38 25 = -1 ∨ ∃ q : Nat, q < p ∧ S.1 38 25 = nI q))
def Inv (N : Nat) (S : mT) : Prop := ∃ n t p L : Nat, (n ≤ 6 ∧ t ≤ 4 ∧ (n = 0 ↔ t = 0) ∧ p ≤ N ∧ N ≤ 2000 ∧ L ≤ 36 ∧ S.2.2.2.2.length ≤ 4 * N ∧ mSz S.2.2.2.2 = 0) ∧
  (S.1 0 7 = nI n ∧ S.1 38 3 = nI n ∧ S.1 0 8 = nI t ∧ S.1 38 4 = nI t ∧ S.1 0 9 = nI p ∧ S.1 38 9 = nI p ∧ S.1 1 1 = nI L ∧ S.1 38 1 = nI L) ∧ PR S L ∧ KR S t ∧ NR S n t 9 rNow qNow ∧ IR S n t p
-- scratch: what no later call reads
def okI (o k : Nat) : Bool := !(Nat.beq o 3 || Nat.beq o 31 || (Nat.beq o 38 && (Nat.beq k 2 || Nat.beq k 21 || Nat.beq k 24)))
def okA (a : Nat) : Bool := !((Nat.ble 4 a && Nat.ble a 7) || (Nat.ble 32 a && Nat.ble a 37) || (Nat.ble 48 a && Nat.ble a 50))
def ob (S : mT) : mT := (fun o k => if okI o k = true then S.1 o k else 0, fun a => if okA a = true then S.2.1 a else fun _ => 0, S.2.2.1, 0, S.2.2.2.2)
theorem ob_Inv {N : Nat} {S : mT} : Inv N (ob S) ↔ Inv N S := Iff.rfl
theorem Inv.same {N : Nat} {S S' : mT} (h : Inv N S) (e : ob S' = ob S) : Inv N S' := by
  have h1 := ob_Inv.mpr h
  rw [← e] at h1
  exact ob_Inv.mp h1
theorem ob_I {S : mT} {o k : Nat} {x : Int32} (h : okI o k = false) : ob (uI S o k x) = ob S := by
  unfold ob
  refine Prod.ext (funext fun o' => funext fun k' => ?_) rfl
  show (if okI o' k' = true then (if o' = o ∧ k' = k then x else S.1 o' k') else 0) = (if okI o' k' = true then S.1 o' k' else 0)
  by_cases hk : o' = o ∧ k' = k
  · have hz : ¬ okI o' k' = true := by rw [hk.1, hk.2, h]; decide
    rw [if_neg hz, if_neg hz]
  · rw [if_neg hk]
theorem ob_A {S : mT} {a : Nat} {f : Nat → Int32} (h : okA a = false) : ob (uA S a f) = ob S := by
  unfold ob
  refine Prod.ext rfl (Prod.ext (funext fun a' => ?_) rfl)
  show (if okA a' = true then (if a' = a then f else S.2.1 a') else fun _ => 0) = (if okA a' = true then S.2.1 a' else fun _ => 0)
  by_cases hk : a' = a
  · have hz : ¬ okA a' = true := by rw [hk, h]; decide
    rw [if_neg hz, if_neg hz]
  · rw [if_neg hk]
theorem ob_L {S : mT} {x : Int64} : ob (uL S x) = ob S := rfl
theorem kind_ix {S : mT} {e : Nat} : (mk S)[e + 60]? = S.2.2.2.2[e]? := rfl
theorem cls_ok : ∀ kd, kd ≤ 4 → (cls kd = 8 ∨ cls kd = 0 ∨ cls kd = 9 ∨ cls kd = 7 ∨ cls kd = 1) := by
  intro kd h
  match kd, h with
  | 0, _ => decide
  | 1, _ => decide
  | 2, _ => decide
  | 3, _ => decide
  | 4, _ => decide
theorem s_tO {S : mT} {kd e : Nat} (hk : kd ≤ 4) (h : S.2.2.2.2[e]? = some (.inl (cls kd, []))) : tO (mk S) (some (e + 60)) = some (cls kd) := by
  unfold tO
  simp only [kind_ix, h]
  rw [if_pos (cls_ok kd hk)]
-- 2 letter
theorem c_letter {S : mT} {L : Nat} (hL : L ≤ 36) (e : S.1 1 1 = nI L) (v : Int32) : f_X10_letter 0 v (mk S) = some (if v.toInt < 1 ∨ 126 < v.toInt then (-102, mk S) else if L = 36 then (-104, mk S) else (nI (L + 1), mk (uI (uA S 2 (upd (S.2.1 2) L v)) 1 1 (nI (L + 1))))) := by
  simp only [f_X10_letter, f_X10_letter_J11, f_X3_append, rR_0_0, rR_0_1, rR_0_2, rR_0_3, rR_0_4, rR_0_5, rR_0_6, rR_1_0, rR_3_0, rR_3_1, rR_3_2, rR_3_3, rR_9_0, rR_9_1, rR_9_2, rR_9_3, rR_9_4, rR_9_5, rR_9_6, rR_16_0, rR_16_1, rR_16_2, rR_20_0, rR_20_1, rR_20_2, rR_20_3, rR_20_4, rR_20_5, rR_20_6, rR_27_0, rR_27_1, rR_27_2, rR_31_0, rR_31_1, rR_31_2, rR_31_3, rR_31_4, rR_38_0, rR_38_10, rR_38_11, rR_38_12, rR_38_13, rR_38_14, rR_38_15, rR_38_16, rR_38_17, rR_38_18, rR_38_19, rR_38_20, rR_38_23, rR_38_31, rR_38_32, rR_38_33, rR_38_34, rR_38_35, rR_38_36, rR_38_37, rR_38_38, kk_0, kk_1, kk_3, kk_9, kk_16, kk_20, kk_27, kk_31, kk_38, rI_0_7, rI_0_8, rI_0_9, rI_0_10, rI_1_1, rI_3_4, rI_3_5, rI_3_6, rI_3_7, rI_9_7, rI_9_8, rI_9_9, rI_9_10, rI_9_11, rI_16_3, rI_20_7, rI_20_8, rI_20_9, rI_20_10, rI_20_11, rI_27_3, rI_31_5, rI_31_6, rI_38_1, rI_38_2, rI_38_3, rI_38_4, rI_38_5, rI_38_6, rI_38_7, rI_38_8, rI_38_9, rI_38_21, rI_38_22, rI_38_24, rI_38_25, rI_38_26, rI_38_27, rI_38_28, rI_38_29, rI_38_30, rL_38_39, bS, lt_T, le_T, e]
  rw [show (1 : Int32).toInt = 1 from rfl, show (126 : Int32).toInt = 126 from rfl, show (36 : Int32).toInt = 36 from rfl, nT (by omega)]
  by_cases h1 : v.toInt < 1
  · rw [if_pos h1, if_pos (Or.inl h1)]
  · rw [if_neg h1]
    by_cases h2 : v.toInt ≤ 126
    · rw [if_pos h2, if_neg (show ¬ (v.toInt < 1 ∨ 126 < v.toInt) by omega)]
      by_cases h3 : L = 36
      · rw [if_neg (show ¬ ((L : Int) < 36) by omega), if_pos h3]
      · rw [if_pos (show ((L : Int) < 36) by omega), if_neg h3, s_put (aG_2 S) (by decide) (by omega), aW_2]
        simp only [rR_0_0, rR_0_1, rR_0_2, rR_0_3, rR_0_4, rR_0_5, rR_0_6, rR_1_0, rR_3_0, rR_3_1, rR_3_2, rR_3_3, rR_9_0, rR_9_1, rR_9_2, rR_9_3, rR_9_4, rR_9_5, rR_9_6, rR_16_0, rR_16_1, rR_16_2, rR_20_0, rR_20_1, rR_20_2, rR_20_3, rR_20_4, rR_20_5, rR_20_6, rR_27_0, rR_27_1, rR_27_2, rR_31_0, rR_31_1, rR_31_2, rR_31_3, rR_31_4, rR_38_0, rR_38_10, rR_38_11, rR_38_12, rR_38_13, rR_38_14, rR_38_15, rR_38_16, rR_38_17, rR_38_18, rR_38_19, rR_38_20, rR_38_23, rR_38_31, rR_38_32, rR_38_33, rR_38_34, rR_38_35, rR_38_36, rR_38_37, rR_38_38, kk_0, kk_1, kk_3, kk_9, kk_16, kk_20, kk_27, kk_31, kk_38, rI_0_7, rI_0_8, rI_0_9, rI_0_10, rI_1_1, rI_3_4, rI_3_5, rI_3_6, rI_3_7, rI_9_7, rI_9_8, rI_9_9, rI_9_10, rI_9_11, rI_16_3, rI_20_7, rI_20_8, rI_20_9, rI_20_10, rI_20_11, rI_27_3, rI_31_5, rI_31_6, rI_38_1, rI_38_2, rI_38_3, rI_38_4, rI_38_5, rI_38_6, rI_38_7, rI_38_8, rI_38_9, rI_38_21, rI_38_22, rI_38_24, rI_38_25, rI_38_26, rI_38_27, rI_38_28, rI_38_29, rI_38_30, rL_38_39, bS, wI_0_7, wI_0_8, wI_0_9, wI_1_1, wI_3_4, wI_3_5, wI_3_6, wI_3_7, wI_9_7, wI_9_8, wI_9_9, wI_9_10, wI_9_11, wI_16_3, wI_20_7, wI_20_8, wI_20_9, wI_20_10, wI_20_11, wI_27_3, wI_31_5, wI_31_6, wI_38_1, wI_38_2, wI_38_3, wI_38_4, wI_38_5, wI_38_6, wI_38_7, wI_38_8, wI_38_9, wI_38_21, wI_38_22, wI_38_24, wI_38_25, wI_38_26, wI_38_27, wI_38_28, wI_38_29, wI_38_30, wL_38_39, uA_1, e, nI_1]
        rfl
    · rw [if_neg h2, if_pos (by omega)]
theorem r_letter {S : mT} {L : Nat} (hL : L ≤ 36) (e : S.1 38 1 = nI L) (v : Int32) : f_X11_letter 38 v (mk S) = some (if v.toInt < 1 ∨ 126 < v.toInt then (-102, mk S) else if L = 36 then (-104, mk S) else (nI (L + 1), mk (uI (uA S 39 (upd (S.2.1 39) L v)) 38 1 (nI (L + 1))))) := by
  simp only [f_X11_letter, s_in v 1 126 1 126 rfl rfl, rR_0_0, rR_0_1, rR_0_2, rR_0_3, rR_0_4, rR_0_5, rR_0_6, rR_1_0, rR_3_0, rR_3_1, rR_3_2, rR_3_3, rR_9_0, rR_9_1, rR_9_2, rR_9_3, rR_9_4, rR_9_5, rR_9_6, rR_16_0, rR_16_1, rR_16_2, rR_20_0, rR_20_1, rR_20_2, rR_20_3, rR_20_4, rR_20_5, rR_20_6, rR_27_0, rR_27_1, rR_27_2, rR_31_0, rR_31_1, rR_31_2, rR_31_3, rR_31_4, rR_38_0, rR_38_10, rR_38_11, rR_38_12, rR_38_13, rR_38_14, rR_38_15, rR_38_16, rR_38_17, rR_38_18, rR_38_19, rR_38_20, rR_38_23, rR_38_31, rR_38_32, rR_38_33, rR_38_34, rR_38_35, rR_38_36, rR_38_37, rR_38_38, kk_0, kk_1, kk_3, kk_9, kk_16, kk_20, kk_27, kk_31, kk_38, rI_0_7, rI_0_8, rI_0_9, rI_0_10, rI_1_1, rI_3_4, rI_3_5, rI_3_6, rI_3_7, rI_9_7, rI_9_8, rI_9_9, rI_9_10, rI_9_11, rI_16_3, rI_20_7, rI_20_8, rI_20_9, rI_20_10, rI_20_11, rI_27_3, rI_31_5, rI_31_6, rI_38_1, rI_38_2, rI_38_3, rI_38_4, rI_38_5, rI_38_6, rI_38_7, rI_38_8, rI_38_9, rI_38_21, rI_38_22, rI_38_24, rI_38_25, rI_38_26, rI_38_27, rI_38_28, rI_38_29, rI_38_30, rL_38_39, bS, e]
  by_cases h1 : v.toInt < 1 ∨ 126 < v.toInt
  · rw [if_neg (show ¬ (1 ≤ v.toInt ∧ v.toInt ≤ 126) by omega), if_pos rfl, if_pos h1]
  · rw [if_pos (show (1 ≤ v.toInt ∧ v.toInt ≤ 126) by omega), if_neg (by decide), if_neg h1]
    by_cases h3 : L = 36
    · subst h3
      rw [if_pos (show nI 36 = 36 from rfl), if_pos rfl]
    · rw [if_neg (by rw [eq_T, nT (by omega)]; show ¬ ((L : Int) = 36); omega), if_neg h3, aS_39 S v (by omega)]
      simp only [rR_0_0, rR_0_1, rR_0_2, rR_0_3, rR_0_4, rR_0_5, rR_0_6, rR_1_0, rR_3_0, rR_3_1, rR_3_2, rR_3_3, rR_9_0, rR_9_1, rR_9_2, rR_9_3, rR_9_4, rR_9_5, rR_9_6, rR_16_0, rR_16_1, rR_16_2, rR_20_0, rR_20_1, rR_20_2, rR_20_3, rR_20_4, rR_20_5, rR_20_6, rR_27_0, rR_27_1, rR_27_2, rR_31_0, rR_31_1, rR_31_2, rR_31_3, rR_31_4, rR_38_0, rR_38_10, rR_38_11, rR_38_12, rR_38_13, rR_38_14, rR_38_15, rR_38_16, rR_38_17, rR_38_18, rR_38_19, rR_38_20, rR_38_23, rR_38_31, rR_38_32, rR_38_33, rR_38_34, rR_38_35, rR_38_36, rR_38_37, rR_38_38, kk_0, kk_1, kk_3, kk_9, kk_16, kk_20, kk_27, kk_31, kk_38, rI_0_7, rI_0_8, rI_0_9, rI_0_10, rI_1_1, rI_3_4, rI_3_5, rI_3_6, rI_3_7, rI_9_7, rI_9_8, rI_9_9, rI_9_10, rI_9_11, rI_16_3, rI_20_7, rI_20_8, rI_20_9, rI_20_10, rI_20_11, rI_27_3, rI_31_5, rI_31_6, rI_38_1, rI_38_2, rI_38_3, rI_38_4, rI_38_5, rI_38_6, rI_38_7, rI_38_8, rI_38_9, rI_38_21, rI_38_22, rI_38_24, rI_38_25, rI_38_26, rI_38_27, rI_38_28, rI_38_29, rI_38_30, rL_38_39, bS, wI_0_7, wI_0_8, wI_0_9, wI_1_1, wI_3_4, wI_3_5, wI_3_6, wI_3_7, wI_9_7, wI_9_8, wI_9_9, wI_9_10, wI_9_11, wI_16_3, wI_20_7, wI_20_8, wI_20_9, wI_20_10, wI_20_11, wI_27_3, wI_31_5, wI_31_6, wI_38_1, wI_38_2, wI_38_3, wI_38_4, wI_38_5, wI_38_6, wI_38_7, wI_38_8, wI_38_9, wI_38_21, wI_38_22, wI_38_24, wI_38_25, wI_38_26, wI_38_27, wI_38_28, wI_38_29, wI_38_30, wL_38_39, uA_1, e, nI_1]
      rfl
theorem op_letter {N : Nat} {S : mT} (h : Inv N S) (v : Int32) : ∃ r S1 S2, f_X10_letter 0 v (mk S) = some (r, mk S1) ∧ f_X11_letter 38 v (mk S1) = some (r, mk S2) ∧ Inv N S2 := by
  obtain ⟨n, t, p, L, ⟨a1, a2, a3, a4, a5, a6, a7⟩, ⟨b1, b2, b3, b4, b5, b6, b7, b8⟩, hP, hK, hN, hI⟩ := id h
  have hc := c_letter a6 b7 v
  by_cases h1 : v.toInt < 1 ∨ 126 < v.toInt
  · rw [if_pos h1] at hc
    have hr := r_letter a6 b8 v
    rw [if_pos h1] at hr
    exact ⟨_, _, _, hc, hr, h⟩
  · rw [if_neg h1] at hc
    by_cases h2 : L = 36
    · rw [if_pos h2] at hc
      have hr := r_letter a6 b8 v
      rw [if_neg h1, if_pos h2] at hr
      exact ⟨_, _, _, hc, hr, h⟩
    · rw [if_neg h2] at hc
      have hr := r_letter (S := uI (uA S 2 (upd (S.2.1 2) L v)) 1 1 (nI (L + 1))) a6 b8 v
      rw [if_neg h1, if_neg h2] at hr
      refine ⟨_, _, _, hc, hr, n, t, p, L + 1, ⟨a1, a2, a3, a4, a5, by omega, a7⟩, ⟨b1, b2, b3, b4, b5, b6, rfl, rfl⟩, fun i hi => ?_, hK, hN, hI⟩
      show upd (S.2.1 2) L v i = upd (S.2.1 39) L v i ∧ ∃ c : Nat, c < 127 ∧ upd (S.2.1 39) L v i = nI c
      unfold upd
      by_cases hiL : i = L
      · rw [if_pos hiL, if_pos hiL]
        obtain ⟨j, h3, h4, h5⟩ := nI_of' (x := v) (by omega)
        exact ⟨rfl, j, by omega, h4⟩
      · rw [if_neg hiL, if_neg hiL]
        exact hP i (by omega)
-- 3 blank
theorem op_blank {N : Nat} {S : mT} (h : Inv N S) : ∃ r S1 S2, f_X10_blank 0 (mk S) = some (r, mk S1) ∧ f_X11_blank 38 (mk S1) = some (r, mk S2) ∧ Inv N S2 := by
  obtain ⟨n, t, p, L, ⟨a1, a2, a3, a4, a5, a6, a7⟩, ⟨b1, b2, b3, b4, b5, b6, b7, b8⟩, hP, hK, hN, hI⟩ := id h
  refine ⟨nI L, uI S 1 1 0, uI (uI S 1 1 0) 38 1 0, ?_, ?_, n, t, p, 0, ⟨a1, a2, a3, a4, a5, by omega, a7⟩, ⟨b1, b2, b3, b4, b5, b6, rfl, rfl⟩, fun i hi => absurd hi (by omega), hK, hN, hI⟩
  · simp only [f_X10_blank, rR_0_0, rR_0_1, rR_0_2, rR_0_3, rR_0_4, rR_0_5, rR_0_6, rR_1_0, rR_3_0, rR_3_1, rR_3_2, rR_3_3, rR_9_0, rR_9_1, rR_9_2, rR_9_3, rR_9_4, rR_9_5, rR_9_6, rR_16_0, rR_16_1, rR_16_2, rR_20_0, rR_20_1, rR_20_2, rR_20_3, rR_20_4, rR_20_5, rR_20_6, rR_27_0, rR_27_1, rR_27_2, rR_31_0, rR_31_1, rR_31_2, rR_31_3, rR_31_4, rR_38_0, rR_38_10, rR_38_11, rR_38_12, rR_38_13, rR_38_14, rR_38_15, rR_38_16, rR_38_17, rR_38_18, rR_38_19, rR_38_20, rR_38_23, rR_38_31, rR_38_32, rR_38_33, rR_38_34, rR_38_35, rR_38_36, rR_38_37, rR_38_38, kk_0, kk_1, kk_3, kk_9, kk_16, kk_20, kk_27, kk_31, kk_38, rI_0_7, rI_0_8, rI_0_9, rI_0_10, rI_1_1, rI_3_4, rI_3_5, rI_3_6, rI_3_7, rI_9_7, rI_9_8, rI_9_9, rI_9_10, rI_9_11, rI_16_3, rI_20_7, rI_20_8, rI_20_9, rI_20_10, rI_20_11, rI_27_3, rI_31_5, rI_31_6, rI_38_1, rI_38_2, rI_38_3, rI_38_4, rI_38_5, rI_38_6, rI_38_7, rI_38_8, rI_38_9, rI_38_21, rI_38_22, rI_38_24, rI_38_25, rI_38_26, rI_38_27, rI_38_28, rI_38_29, rI_38_30, rL_38_39, bS, wI_0_7, wI_0_8, wI_0_9, wI_1_1, wI_3_4, wI_3_5, wI_3_6, wI_3_7, wI_9_7, wI_9_8, wI_9_9, wI_9_10, wI_9_11, wI_16_3, wI_20_7, wI_20_8, wI_20_9, wI_20_10, wI_20_11, wI_27_3, wI_31_5, wI_31_6, wI_38_1, wI_38_2, wI_38_3, wI_38_4, wI_38_5, wI_38_6, wI_38_7, wI_38_8, wI_38_9, wI_38_21, wI_38_22, wI_38_24, wI_38_25, wI_38_26, wI_38_27, wI_38_28, wI_38_29, wI_38_30, wL_38_39, b7]
  · simp only [f_X11_blank, rR_0_0, rR_0_1, rR_0_2, rR_0_3, rR_0_4, rR_0_5, rR_0_6, rR_1_0, rR_3_0, rR_3_1, rR_3_2, rR_3_3, rR_9_0, rR_9_1, rR_9_2, rR_9_3, rR_9_4, rR_9_5, rR_9_6, rR_16_0, rR_16_1, rR_16_2, rR_20_0, rR_20_1, rR_20_2, rR_20_3, rR_20_4, rR_20_5, rR_20_6, rR_27_0, rR_27_1, rR_27_2, rR_31_0, rR_31_1, rR_31_2, rR_31_3, rR_31_4, rR_38_0, rR_38_10, rR_38_11, rR_38_12, rR_38_13, rR_38_14, rR_38_15, rR_38_16, rR_38_17, rR_38_18, rR_38_19, rR_38_20, rR_38_23, rR_38_31, rR_38_32, rR_38_33, rR_38_34, rR_38_35, rR_38_36, rR_38_37, rR_38_38, kk_0, kk_1, kk_3, kk_9, kk_16, kk_20, kk_27, kk_31, kk_38, rI_0_7, rI_0_8, rI_0_9, rI_0_10, rI_1_1, rI_3_4, rI_3_5, rI_3_6, rI_3_7, rI_9_7, rI_9_8, rI_9_9, rI_9_10, rI_9_11, rI_16_3, rI_20_7, rI_20_8, rI_20_9, rI_20_10, rI_20_11, rI_27_3, rI_31_5, rI_31_6, rI_38_1, rI_38_2, rI_38_3, rI_38_4, rI_38_5, rI_38_6, rI_38_7, rI_38_8, rI_38_9, rI_38_21, rI_38_22, rI_38_24, rI_38_25, rI_38_26, rI_38_27, rI_38_28, rI_38_29, rI_38_30, rL_38_39, bS, wI_0_7, wI_0_8, wI_0_9, wI_1_1, wI_3_4, wI_3_5, wI_3_6, wI_3_7, wI_9_7, wI_9_8, wI_9_9, wI_9_10, wI_9_11, wI_16_3, wI_20_7, wI_20_8, wI_20_9, wI_20_10, wI_20_11, wI_27_3, wI_31_5, wI_31_6, wI_38_1, wI_38_2, wI_38_3, wI_38_4, wI_38_5, wI_38_6, wI_38_7, wI_38_8, wI_38_9, wI_38_21, wI_38_22, wI_38_24, wI_38_25, wI_38_26, wI_38_27, wI_38_28, wI_38_29, wI_38_30, wL_38_39]
    show some (S.1 38 1, _) = _
    rw [b8]
