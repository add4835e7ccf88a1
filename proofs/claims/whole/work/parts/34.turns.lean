/-- the column after a turn, or -1 -/
def cb (a b : Int32) : Int32 := if 0 ≤ (a + b - (2 : Int32)).toInt ∧ (a + b - (2 : Int32)).toInt ≤ 5 then a + b - (2 : Int32) else -1
theorem s_cbC (a b : Int32) (w : mW) : f_X10_columnBy a b w = some (cb a b) := by
  unfold f_X10_columnBy f_X10_columnBy_J18 cb
  rw [s_isCol, bS]
  simp only [ite01]
  by_cases h : 0 ≤ (a + b - (2 : Int32)).toInt ∧ (a + b - (2 : Int32)).toInt ≤ 5
  · rw [if_neg (fun z => z h), if_pos h]
  · rw [if_pos h, if_neg h]
theorem s_cbR (a b : Int32) (w : mW) : f_X11_columnBy a b w = some (cb a b) := by
  unfold f_X11_columnBy f_X11_columnBy_J23 cb
  rw [s_in _ 0 5 0 5 rfl rfl, bS]
  simp only [ite01]
  by_cases h : 0 ≤ (a + b - (2 : Int32)).toInt ∧ (a + b - (2 : Int32)).toInt ≤ 5
  · rw [if_neg (fun z => z h), if_pos h]
  · rw [if_pos h, if_neg h]
/-- sight k speaks against turn v of tosser x -/
def vio (S : mT) (x : Int32) (v : Int32) : Nat → Bool := fun k => decide (S.2.1 51 (3 * k) = x ∧ ¬ cb (S.2.1 51 (3 * k + 1)) v = S.2.1 51 (3 * k + 2))
theorem s_alw {S : mT} {c : Nat} (hc : c ≤ 6) (e : S.1 16 3 = nI c) (hs : ∀ i, i < c → S.2.1 17 i = S.2.1 51 (3 * i) ∧ S.2.1 18 i = S.2.1 51 (3 * i + 1) ∧ S.2.1 19 i = S.2.1 51 (3 * i + 2)) (x v : Int32) : f_X6_allows 16 x v (mk S) = some (if anyB (vio S x v) c = true then 0 else 1) := by
  have hl := (loopR (fun m k => f_X6_allows_L2 16 x v (mk S) m (nI k)) (vio S x v) (fun _ => Sum.inl 0) (Sum.inr ()) c 0 mFuel ?_ ?_ (by unfold mFuel; omega)).trans (congrArg some (fst_any (vio S x v) c (Sum.inl (0 : Int32)) (Sum.inr ())))
  · unfold f_X6_allows
    rw [show f_X6_allows_L2 16 x v (mk S) mFuel 0 = _ from hl, bS]
    by_cases h : anyB (vio S x v) c = true
    · rw [if_pos h, if_pos h]
    · rw [if_neg h, if_neg h]
  · intro m k _ hk
    obtain ⟨h1, h2, h3⟩ := hs k (by omega)
    simp only [f_X6_allows_L2, f_X6_allows_J27, f_X6_allows_J59]
    rw [rI_16_3, bS, e, if_neg (show ¬ nI c ≤ nI k by rw [n_le (by omega) (by omega)]; omega), rR_16_0, bS, s_at (aG_17 S) (by decide) (by omega), bS, h1, nI_1]
    by_cases g1 : S.2.1 51 (3 * k) = x
    · rw [if_pos g1, if_neg (by decide), rR_16_1, bS, s_at (aG_18 S) (by decide) (by omega), bS, s_cbC, bS, rR_16_2, bS, s_at (aG_19 S) (by decide) (by omega), bS, h2, h3]
      by_cases g2 : cb (S.2.1 51 (3 * k + 1)) v = S.2.1 51 (3 * k + 2)
      · rw [if_pos g2, if_neg (show ¬ vio S x v k = true by unfold vio; simp [g2])]
      · rw [if_neg g2, if_pos (show vio S x v k = true by unfold vio; simp [g1, g2])]
    · rw [if_neg g1, if_pos trivial, if_neg (show ¬ vio S x v k = true by unfold vio; simp [g1])]
  · intro m
    simp only [f_X6_allows_L2]
    rw [rI_16_3, bS, e, Nat.zero_add, if_pos (show nI c ≤ nI c by rw [n_le (by omega) (by omega)]; omega)]
def trn (S : mT) (c : Nat) (x : Int32) : Nat → Bool := fun v => !anyB (vio S x (nI v)) c
theorem s_trnC {S : mT} {c : Nat} (hc : c ≤ 6) (e : S.1 16 3 = nI c) (hs : ∀ i, i < c → S.2.1 17 i = S.2.1 51 (3 * i) ∧ S.2.1 18 i = S.2.1 51 (3 * i + 1) ∧ S.2.1 19 i = S.2.1 51 (3 * i + 2)) (x : Int32) : f_X6_turnsOf 16 x (mk S) = some (nI (bN (trn S c x) 5)) := by
  have hl := loopG (fun m a k => f_X6_turnsOf_L4 16 x (mk S) m a (nI k)) 5 (fun k a => if trn S c x k then a ||| ((1 : Int32) <<< (nI k &&& 31)) else a) id 0 ?_ ?_ mFuel (by unfold mFuel; omega)
  · rw [it_bits _ (by omega)] at hl
    unfold f_X6_turnsOf
    rw [show f_X6_turnsOf_L4 16 x (mk S) mFuel 0 0 = _ from hl, bS]
    rfl
  · intro m k a hk
    simp only [f_X6_turnsOf_L4, f_X6_turnsOf_J24]
    rw [if_neg (show ¬ (5 : Int32) ≤ nI k by rw [show (5 : Int32) = nI 5 from rfl, n_le (by omega) (by omega)]; omega), kk_16, bS, s_alw hc e hs, bS, nI_1]
    unfold trn
    cases anyB (vio S x (nI k)) c
    · rw [if_neg (show ¬ (if false = true then (0 : Int32) else 1) = 0 by decide)]; rfl
    · rw [if_pos (show (if true = true then (0 : Int32) else 1) = 0 by decide)]; rfl
  · intro m a
    simp only [f_X6_turnsOf_L4]
    rw [if_pos (by decide)]
    rfl
theorem s_trnI {S : mT} {c : Nat} (hc : c ≤ 6) (e : S.1 38 22 = nI c) (x a v : Int32) : f_X11_turnsOf_L15 38 x a v (mk S) mFuel 1 0 = some (if anyB (vio S x v) c = true then 0 else 1) := by
  have hl := loopG (fun m b k => f_X11_turnsOf_L15 38 x a v (mk S) m b (nI (3 * k))) c (fun k b => if b = 0 then (0 : Int32) else if vio S x v k = true then 0 else 1) id 1 ?_ ?_ mFuel (by unfold mFuel; omega)
  · rw [it_any] at hl
    exact hl
  · intro m k b hk
    simp only [f_X11_turnsOf_L15, f_X11_turnsOf_J71, f_X11_turnsOf_J67, f_X11_turnsOf_J72]
    rw [rI_38_22, bS, e, n_3, if_neg (show ¬ nI (3 * c) ≤ nI (3 * k) by rw [n_le (by omega) (by omega)]; omega), show nI (3 * k) + 3 = nI (3 * (k + 1)) from n_add _ _]
    by_cases h0 : b = 0
    · rw [if_pos h0, if_pos h0]
    · rw [if_neg h0, if_neg h0, rR_38_23, bS, aL_51 S (by omega), bS]
      by_cases g1 : S.2.1 51 (3 * k) = x
      · rw [if_pos g1, bS, nI_1, aL_51 S (by omega), bS, s_cbR, bS, bS, n_2, aL_51 S (by omega), bS]
        by_cases g2 : cb (S.2.1 51 (3 * k + 1)) v = S.2.1 51 (3 * k + 2)
        · rw [if_pos g2, if_neg (show ¬ vio S x v k = true by unfold vio; simp [g2])]
        · rw [if_neg g2, if_pos (show vio S x v k = true by unfold vio; simp [g1, g2])]
      · rw [if_neg g1, if_neg (show ¬ vio S x v k = true by unfold vio; simp [g1])]
  · intro m b
    simp only [f_X11_turnsOf_L15]
    rw [rI_38_22, bS, e, n_3, if_pos (show nI (3 * c) ≤ nI (3 * c) by rw [n_le (by omega) (by omega)]; omega)]
    rfl
theorem s_trnR {S : mT} {c : Nat} (hc : c ≤ 6) (e : S.1 38 22 = nI c) (x : Int32) : f_X11_turnsOf 38 x (mk S) = some (nI (bN (trn S c x) 5)) := by
  have hl := loopG (fun m a k => f_X11_turnsOf_L4 38 x (mk S) m a (nI k)) 5 (fun k a => if trn S c x k then a ||| ((1 : Int32) <<< (nI k &&& 31)) else a) id 0 ?_ ?_ mFuel (by unfold mFuel; omega)
  · rw [it_bits _ (by omega)] at hl
    unfold f_X11_turnsOf
    rw [show f_X11_turnsOf_L4 38 x (mk S) mFuel 0 0 = _ from hl, bS]
    rfl
  · intro m k a hk
    simp only [f_X11_turnsOf_L4, f_X11_turnsOf_J93]
    rw [if_neg (show ¬ (5 : Int32) ≤ nI k by rw [show (5 : Int32) = nI 5 from rfl, n_le (by omega) (by omega)]; omega), s_trnI hc e, bS, nI_1]
    unfold trn
    cases anyB (vio S x (nI k)) c
    · rw [if_neg (show ¬ (if false = true then (0 : Int32) else 1) = 0 by decide)]; rfl
    · rw [if_pos (show (if true = true then (0 : Int32) else 1) = 0 by decide), n_or0]; rfl
  · intro m a
    simp only [f_X11_turnsOf_L4]
    rw [if_pos (by decide)]
    rfl
-- where to aim next
theorem mL16_w (a b c d : Int32) (w : mW) : ∀ (n : Nat) (x y : Int32), f_X10_mostLeft_L16 a b c d w n x y = f_X10_mostLeft_L16 a b c d [] n x y
  | 0, _, _ => rfl
  | n + 1, x, y => by simp only [f_X10_mostLeft_L16, f_X10_mostLeft_J45, s_cbC, bS, mL16_w a b c d w n]
theorem mL4_w (a b : Int32) (w : mW) : ∀ (n : Nat) (x y : Int32), f_X10_mostLeft_L4 a b w n x y = f_X10_mostLeft_L4 a b [] n x y
  | 0, _, _ => rfl
  | n + 1, x, y => by simp only [f_X10_mostLeft_L4, mL16_w _ _ _ _ w, mL4_w a b w n]
theorem mL_w (a b : Int32) (w : mW) : f_X10_mostLeft a b w = f_X10_mostLeft a b [] := by
  unfold f_X10_mostLeft
  rw [mL4_w]
theorem tA16_w (a : Int32) (w : mW) : ∀ (n : Nat) (x y z : Int32), f_X10_tellingAim_L16 a w n x y z = f_X10_tellingAim_L16 a [] n x y z
  | 0, _, _, _ => rfl
  | n + 1, x, y, z => by simp only [f_X10_tellingAim_L16, f_X10_tellingAim_J40, mL_w _ _ w, tA16_w a w n]
theorem tA_w (a : Int32) (w : mW) : f_X10_tellingAim a w = f_X10_tellingAim a [] := by
  unfold f_X10_tellingAim
  simp only [mL_w _ _ w, tA16_w a w]
theorem a44_w (a b c d e f : Int32) (w : mW) : ∀ (n : Nat) (x y : Int32), f_X11_aimOf_L44 a b c d e f w n x y = f_X11_aimOf_L44 a b c d e f [] n x y
  | 0, _, _ => rfl
  | n + 1, x, y => by simp only [f_X11_aimOf_L44, f_X11_aimOf_J79, s_cbR, bS, a44_w a b c d e f w n]
theorem a32_w (a b c d : Int32) (w : mW) : ∀ (n : Nat) (x y : Int32), f_X11_aimOf_L32 a b c d w n x y = f_X11_aimOf_L32 a b c d [] n x y
  | 0, _, _ => rfl
  | n + 1, x, y => by simp only [f_X11_aimOf_L32, f_X11_aimOf_J110, f_X11_aimOf_J112, a44_w _ _ _ _ _ _ w, a32_w a b c d w n]
theorem a15_w (a : Int32) (w : mW) : ∀ (n : Nat) (x y z : Int32), f_X11_aimOf_L15 a w n x y z = f_X11_aimOf_L15 a [] n x y z
  | 0, _, _, _ => rfl
  | n + 1, x, y, z => by simp only [f_X11_aimOf_L15, f_X11_aimOf_J133, f_X11_aimOf_J148, a32_w _ _ _ _ w, a15_w a w n]
theorem k_aim : ∀ a : Fin 32, (f_X10_tellingAim (nI a.val) []).isSome = true ∧ f_X10_tellingAim (nI a.val) [] = f_X11_aimOf_L15 (nI a.val) [] mFuel (-1) 6 0 := by decide +kernel
theorem s_aim {a : Nat} (ha : a < 32) (w : mW) : ∃ r, f_X10_tellingAim (nI a) w = some r ∧ f_X11_aimOf_L15 (nI a) w mFuel (-1) 6 0 = some r := by
  obtain ⟨h1, h2⟩ := k_aim ⟨a, ha⟩
  obtain ⟨r, h3⟩ := Option.isSome_iff_exists.mp h1
  refine ⟨r, ?_, ?_⟩
  · rw [tA_w]; exact h3
  · rw [a15_w, ← h2]; exact h3
