def GC (S : mT) (n T r s : Nat) : Nat := Gm 1048576 (fun q => 16 * bf S (T - 1 - q) + 1) (fun q => cvf S n (T - 1 - q)) r s
theorem GC_le (S : mT) (n T r s : Nat) : GC S n T r s ≤ 1048576 := Gm_I _ _ _ _ _
theorem GC_A {S : mT} {n T x s : Nat} (hx : x < T) : GC S n T T s ≤ 16 * bf S x + 1 + GC S n T T (wo s (cvf S n x)) := by
  have h := Gm_A 1048576 (fun q => 16 * bf S (T - 1 - q) + 1) (fun q => cvf S n (T - 1 - q)) T (T - 1 - x) s (by omega)
  simp only [show T - 1 - (T - 1 - x) = x by omega] at h
  exact h
theorem GC_B {S : mT} {n T s : Nat} (hn : n ≤ 6) (hs : s < 64) (h0 : ¬ s = 0) (hi : GC S n T T s < 1048576) : ∃ x, x < T ∧ ¬ s &&& cvf S n x = 0 ∧ 16 * bf S x + 1 + GC S n T T (wo s (cvf S n x)) = GC S n T T s := by
  obtain ⟨q, q1, q2, q3⟩ := Gm_B 1048576 (fun q => 16 * bf S (T - 1 - q) + 1) (fun q => cvf S n (T - 1 - q)) (fun q => by omega) (fun q => bN_lt64 hn) T s hs h0 hi
  exact ⟨T - 1 - q, by omega, q2, q3⟩
theorem chp_ex {S : mT} {n V c : Nat} : ∀ {x : Nat}, chp S n V x c < 1048576 → ∃ y, y < x ∧ cvf S n y &&& V = c ∧ chp S n V x c = 16 * bf S y + 1
  | 0, h => by rw [chp] at h; omega
  | x + 1, h => by
    rw [chp] at h ⊢
    by_cases hc : cvf S n x &&& V = c
    · rw [if_pos hc] at h ⊢
      by_cases hm : chp S n V x c ≤ 16 * bf S x + 1
      · rw [Nat.min_eq_left hm] at h ⊢
        obtain ⟨y, y1, y2, y3⟩ := chp_ex h
        exact ⟨y, by omega, y2, y3⟩
      · rw [Nat.min_eq_right (by omega)]
        exact ⟨x, by omega, hc, rfl⟩
    · rw [if_neg hc] at h ⊢
      obtain ⟨y, y1, y2, y3⟩ := chp_ex h
      exact ⟨y, by omega, y2, y3⟩
theorem chp_min {S : mT} {n V c : Nat} : ∀ {x y : Nat}, y < x → cvf S n y &&& V = c → chp S n V x c ≤ 16 * bf S y + 1
  | 0, y, h, _ => absurd h (by omega)
  | x + 1, y, h, hc => by
    rw [chp]
    by_cases hyx : y = x
    · subst hyx
      rw [if_pos hc]
      omega
    · have := chp_min (x := x) (y := y) (by omega) hc
      by_cases hcx : cvf S n x &&& V = c
      · rw [if_pos hcx]; omega
      · rw [if_neg hcx]; exact this
theorem wo_mask {k V a : Nat} (hk : k < 64) (hV : V < 64) (ha : a < 64) (h : k &&& V = k) : wo k (a &&& V) = wo k a := by
  refine n_ext (wo64 _ hk) (wo64 _ hk) fun i hi => ?_
  rw [wo_bit hk (and64 ha) hi, wo_bit hk ha hi, Nat.testBit_and]
  have hb : (k &&& V).testBit i = k.testBit i := by rw [h]
  rw [Nat.testBit_and] at hb
  cases h1 : k.testBit i
  · rfl
  · rw [h1, Bool.true_and] at hb
    rw [hb, Bool.and_true]
theorem and_mask {k V a : Nat} (h : k &&& V = k) : k &&& (a &&& V) = k &&& a := by
  rw [Nat.and_comm a V, ← Nat.and_assoc, h]
theorem k_wlt : ∀ k c : Fin 64, ¬ c.val &&& k.val = 0 → wo k.val c.val < k.val := by decide +kernel
theorem wo_sub {k V a : Nat} (h : k &&& V = k) : wo k a &&& V = wo k a := by
  unfold wo
  rw [Nat.and_assoc, Nat.and_comm (63 - a), ← Nat.and_assoc, h]
/-- the least price over the crowds 1 .. i -/
def lpf (S : mT) (n V T k : Nat) : Nat → Nat
  | 0 => 1048576
  | i + 1 => if (i + 1) &&& k = 0 then lpf S n V T k i else if 1048576 ≤ chp S n V T (i + 1) then lpf S n V T k i else min (lpf S n V T k i) (chp S n V T (i + 1) + GC S n T T (wo k (i + 1)))
theorem lpf_le (S : mT) (n V T k : Nat) : ∀ i, lpf S n V T k i ≤ 1048576
  | 0 => Nat.le_refl _
  | i + 1 => by
    have := lpf_le S n V T k i
    rw [lpf]
    split
    · exact this
    · split <;> omega
theorem lpf_ge {S : mT} {n V T k : Nat} (hn : n ≤ 6) (hk : k < 64) (hV : V < 64) (hkV : k &&& V = k) : ∀ i, GC S n T T k ≤ lpf S n V T k i
  | 0 => GC_le _ _ _ _ _
  | i + 1 => by
    have h := lpf_ge (T := T) (S := S) hn hk hV hkV i
    rw [lpf]
    by_cases h1 : (i + 1) &&& k = 0
    · rw [if_pos h1]; exact h
    · rw [if_neg h1]
      by_cases h2 : 1048576 ≤ chp S n V T (i + 1)
      · rw [if_pos h2]; exact h
      · rw [if_neg h2]
        obtain ⟨y, y1, y2, y3⟩ := chp_ex (S := S) (n := n) (V := V) (c := i + 1) (x := T) (by omega)
        have h3 := GC_A (S := S) (n := n) (s := k) y1
        rw [← wo_mask (a := cvf S n y) hk hV (bN_lt64 hn) hkV, y2] at h3
        omega
theorem lpf_min {S : mT} {n V T k c : Nat} (h1 : ¬ c &&& k = 0) (h2 : chp S n V T c < 1048576) : ∀ i, 1 ≤ c → c ≤ i → lpf S n V T k i ≤ chp S n V T c + GC S n T T (wo k c)
  | 0, h3, h4 => by omega
  | i + 1, h3, h4 => by
    rw [lpf]
    by_cases hc : c = i + 1
    · subst hc
      rw [if_neg h1, if_neg (by omega)]
      omega
    · have := lpf_min h1 h2 i h3 (by omega)
      split
      · exact this
      · split <;> omega
theorem lpf_eq {S : mT} {n V T k : Nat} (hn : n ≤ 6) (hk : k < 64) (hV : V < 64) (hkV : k &&& V = k) (h0 : ¬ k = 0) : lpf S n V T k 63 = GC S n T T k := by
  have h1 := lpf_ge (T := T) (S := S) hn hk hV hkV 63
  by_cases hi : GC S n T T k < 1048576
  · obtain ⟨x, x1, x2, x3⟩ := GC_B hn hk h0 hi
    have hc : cvf S n x &&& V < 64 := and64 (bN_lt64 hn)
    have h2 : ¬ (cvf S n x &&& V) &&& k = 0 := by
      rw [Nat.and_comm, and_mask hkV]
      exact x2
    have h3 := chp_min (S := S) (n := n) (V := V) x1 rfl
    have hb := (btN_b (kdO S (x / 36))).2
    have hbf : bf S x ≤ 5 := hb
    have h4 : 1 ≤ cvf S n x &&& V := by
      apply Classical.byContradiction
      intro hz
      apply h2
      rw [show cvf S n x &&& V = 0 by omega, Nat.zero_and]
    have h5 := lpf_min (S := S) (n := n) (V := V) (T := T) (k := k) h2 (by omega) 63 h4 (by omega)
    rw [wo_mask (a := cvf S n x) hk hV (bN_lt64 hn) hkV] at h5
    omega
  · have := lpf_le S n V T k 63
    have := GC_le S n T T k
    omega
theorem s_least {S : mT} {n V T k : Nat} (hn : n ≤ 6) (hk : k < 64) (hkV : k &&& V = k) {f g h i : Nat → Int32} (hh : ∀ c, c < 64 → h c = nI (chp S n V T c)) (hi : ∀ s, s < k → s &&& V = s → i s = nI (GC S n T T s)) : f_X4_leastPrice 31 (nI k) (mk (m32 S f g h i)) = some (nI (lpf S n V T k 63)) := by
  have hl := loopF (fun m (a : Nat) c => f_X4_leastPrice_L5 31 (nI k) (mk (m32 S f g h i)) m (nI a) (nI (c + 1))) 63 (fun c a => if (c + 1) &&& k = 0 then a else if 1048576 ≤ chp S n V T (c + 1) then a else min a (chp S n V T (c + 1) + GC S n T T (wo k (c + 1)))) (fun a => nI a) (fun c a => a = lpf S n V T k c) 1048576 rfl ?_ ?_ mFuel (by unfold mFuel; omega)
  · obtain ⟨l1, l2⟩ := hl
    unfold f_X4_leastPrice
    rw [l2] at l1
    rw [show f_X4_leastPrice_L5 31 (nI k) (mk (m32 S f g h i)) mFuel 1048576 1 = _ from l1, bS]
  · intro m c a hc hI
    refine ⟨?_, by rw [hI]; rfl⟩
    have la := lpf_le S n V T k c
    have lc := chp_le S n V T (c + 1)
    have lg := GC_le S n T T (wo k (c + 1))
    simp only [f_X4_leastPrice_L5, f_X4_leastPrice_J56]
    rw [if_neg (show ¬ (64 : Int32) ≤ nI (c + 1) by rw [show (64 : Int32) = nI 64 from rfl, n_le (by omega) (by omega)]; omega), n_and, nI_1]
    have hck : (c + 1) &&& k < 64 := and64 (by omega)
    by_cases h1 : (c + 1) &&& k = 0
    · rw [if_pos (show nI ((c + 1) &&& k) = 0 by rw [h1]; rfl), if_pos h1]
    · rw [if_neg (show ¬ nI ((c + 1) &&& k) = 0 by rw [show (0 : Int32) = nI 0 from rfl, n_eq (by omega) (by omega)]; exact h1), if_neg h1]
      refine bnd (rR_31_2 _) ?_
      refine bnd (s_at (aG_34 _) (by decide) (show c + 1 < 64 by omega)) ?_
      rw [m32_r2, hh _ (by omega)]
      by_cases h2 : 1048576 ≤ chp S n V T (c + 1)
      · rw [if_pos (show (1048576 : Int32) ≤ nI (chp S n V T (c + 1)) by rw [show (1048576 : Int32) = nI 1048576 from rfl, n_le (by omega) (by omega)]; exact h2), if_pos h2]
      · rw [if_neg (show ¬ (1048576 : Int32) ≤ nI (chp S n V T (c + 1)) by rw [show (1048576 : Int32) = nI 1048576 from rfl, n_le (by omega) (by omega)]; exact h2), if_neg h2]
        refine bnd (rR_31_2 _) ?_
        refine bnd (s_at (aG_34 _) (by decide) (show c + 1 < 64 by omega)) ?_
        refine bnd (rR_31_3 _) ?_
        rw [n_wo hk (show c + 1 < 64 by omega)]
        refine bnd (s_at (aG_35 _) (by decide) (wo64 _ hk)) ?_
        rw [m32_r2, m32_r3, hh _ (by omega), hi _ (k_wlt ⟨k, hk⟩ ⟨c + 1, by omega⟩ h1) (wo_sub hkV), n_add]
        subst hI
        by_cases h3 : chp S n V T (c + 1) + GC S n T T (wo k (c + 1)) < lpf S n V T k c
        · rw [if_pos ((n_lt (by omega) (by omega)).mpr h3), Nat.min_eq_right (by omega)]
        · rw [if_neg (fun z => h3 ((n_lt (by omega) (by omega)).mp z)), Nat.min_eq_left (by omega)]
  · intro m a _
    simp only [f_X4_leastPrice_L5]
    rw [if_pos (by decide)]
theorem k_sub0 : ∀ k V : Fin 64, (wo k.val V.val = 0) = (k.val &&& V.val = k.val) := by
  have h : ∀ k V : Fin 64, (decide (wo k.val V.val = 0)) = decide (k.val &&& V.val = k.val) := by decide +kernel
  intro k V
  have := h k V
  by_cases h1 : wo k.val V.val = 0
  · rw [decide_eq_true h1] at this
    exact propext ⟨fun _ => of_decide_eq_true this.symm, fun _ => h1⟩
  · rw [decide_eq_false h1] at this
    exact propext ⟨fun z => absurd z h1, fun z => absurd z (of_decide_eq_false this.symm)⟩
def LT (S : mT) (n V T k : Nat) (i : Nat → Int32) : Prop := ∀ s, s < k → s &&& V = s → i s = nI (GC S n T T s)
theorem s_sol {S : mT} {n V T : Nat} (hn : n ≤ 6) (hV : V < 64) {f g h i0 : Nat → Int32} (hh : ∀ c, c < 64 → h c = nI (chp S n V T c)) (h0 : i0 0 = 0) : ∃ i, f_X4_solve_L11 31 (nI V) mFuel 1 (mk (m32 S f g h i0)) = some (mk (m32 S f g h i)) ∧ LT S n V T 64 i := by
  have hl := loopF (fun m (i : Nat → Int32) k => f_X4_solve_L11 31 (nI V) m (nI (k + 1)) (mk (m32 S f g h i))) 63 (fun k i => upd i (k + 1) (if (k + 1) &&& V = k + 1 then nI (GC S n T T (k + 1)) else 1048576)) (fun i => mk (m32 S f g h i)) (fun k i => LT S n V T (k + 1) i) i0 ?_ ?_ ?_ mFuel (by unfold mFuel; omega)
  · exact ⟨_, hl.1, hl.2⟩
  · intro s hs _
    have : s = 0 := by omega
    subst this
    rw [h0]
    unfold GC
    rw [Gm_0]
    rfl
  · intro m k i hk hI
    constructor
    · simp only [f_X4_solve_L11, f_X4_solve_J40]
      rw [if_neg (show ¬ (64 : Int32) ≤ nI (k + 1) by rw [show (64 : Int32) = nI 64 from rfl, n_le (by omega) (by omega)]; omega), nI_1]
      refine bnd (rR_31_3 _) ?_
      rw [n_wo (show k + 1 < 64 by omega) hV]
      have hw : wo (k + 1) V < 64 := wo64 _ (by omega)
      have hs := k_sub0 ⟨k + 1, by omega⟩ ⟨V, hV⟩
      by_cases h1 : (k + 1) &&& V = k + 1
      · have h2 : wo (k + 1) V = 0 := by
          have := hs.symm ▸ h1
          exact this
        rw [if_pos (show nI (wo (k + 1) V) = 0 by rw [h2]; rfl), if_pos h1]
        refine bnd (kk_31 _) ?_
        refine bnd (s_least hn (show k + 1 < 64 by omega) h1 hh hI) ?_
        rw [lpf_eq hn (by omega) hV h1 (by omega)]
        refine bnd ((s_put (aG_35 _) (by decide) (show k + 1 < 64 by omega) _).trans (congrArg some (aW_35 _ _))) ?_
        rw [m32_r3, m32_3]
      · have h2 : ¬ wo (k + 1) V = 0 := fun z => h1 (by have := hs ▸ z; exact this)
        rw [if_neg (show ¬ nI (wo (k + 1) V) = 0 by rw [show (0 : Int32) = nI 0 from rfl, n_eq (by omega) (by omega)]; exact h2), if_neg h1]
        refine bnd ((s_put (aG_35 _) (by decide) (show k + 1 < 64 by omega) _).trans (congrArg some (aW_35 _ _))) ?_
        rw [m32_r3, m32_3]
    · intro s hs hsV
      rw [upd_at]
      by_cases hsk : s = k + 1
      · subst hsk
        rw [if_pos rfl, if_pos hsV]
      · rw [if_neg hsk]
        exact hI s (by omega) hsV
  · intro m i _
    simp only [f_X4_solve_L11]
    rw [if_pos (by decide)]
