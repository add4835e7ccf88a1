-- from nothing to the law's port, written
def S0 : mT := (fun _ _ => 0, fun _ _ => 0, fun _ => none, 0, [])
theorem dRow0 : dRow S0 = fun _ => 0 := by
  funext j
  show (if j < 6 then (0 : Int32) else if j < 12 then 0 else if j < 18 then 0 else if j < 24 then 0 else if j < 28 then 0 else if j < 32 then 0 else if j < 36 then 0 else if j = 36 then 0 else if j = 37 then 0 else if j = 38 then 0 else 0) = 0
  repeat' split
  all_goals rfl
theorem bRow0 : bRow S0 = fun _ => 0 := by
  funext j
  show (if j = 0 then (0 : Int32) else if j = 1 then 0 else 0) = 0
  repeat' split
  all_goals rfl
theorem l_zero (X : mXs) (v1 v5 v6 : Int32) (v2 v4 : Option Nat) : f_L_portText_L13 X v1 v2 (some 39) v4 v5 v6 mFuel 0 (mk S0) = some (mk S0) := by
  refine loopK (fun m k => f_L_portText_L13 X v1 v2 (some 39) v4 v5 v6 m (nI k) (mk S0)) 39 (mk S0) ?_ (fun m => ?he) mFuel (by unfold mFuel; omega)
  case he =>
    simp only [f_L_portText_L13]
    rw [if_pos (by decide)]
  · intro m k hk
    simp only [f_L_portText_L13]
    rw [if_neg (show ¬ (39 : Int32) ≤ nI k by rw [show (39 : Int32) = nI 39 from rfl, n_le (by omega) (by omega)]; omega), nI_1]
    have hu : upd (dRow S0) k 0 = dRow S0 := by
      rw [dRow0]
      funext j
      show (if j = k then (0 : Int32) else 0) = 0
      rw [ite_self]
    refine bnd ((aS_of (aG_39 S0) (by decide) hk 0).trans (congrArg some ((congrArg (fun f => (mk S0).set 39 (.inr (.inl (39, f)))) hu).trans rfl))) ?_
    rfl
theorem tx_id {S : mT} : tx S (S.2.1 40) (S.2.1 39) = S := by
  unfold tx
  rw [uA_id, uA_id]
theorem tz_id {S : mT} : tz S (S.2.1 44) (S.2.1 45) (S.2.1 46) (S.2.1 39) = S := by
  unfold tz
  rw [uA_id, uA_id, uA_id, uA_id]
/-- the port as the law has written it: n sleepers in the cells c, t tossers -/
def PT (X : mXs) (n t : Nat) (c : Nat → Nat) (P : mT) : Prop := ((1 ≤ n ∧ n ≤ 6) ∧ 1 ≤ t ∧ t ≤ 4) ∧ (P.1 38 3 = nI n ∧ P.1 38 4 = nI t ∧ P.1 38 5 = 0 ∧ P.1 38 6 = 60 ∧ P.1 38 7 = 0) ∧ (∀ o k, o ≠ 38 → P.1 o k = 0) ∧ (∀ r, r ≠ 39 → r ≠ 40 → r ≠ 44 → r ≠ 45 → r ≠ 46 → P.2.1 r = fun _ => 0) ∧ P.2.2.2.2 = [] ∧ TI (P.2.1 40) (P.2.1 39) c n ∧ UI X (P.2.1 44) (P.2.1 45) (P.2.1 46) (P.2.1 39) (3 * n - 1) t
theorem l_port (X : mXs) (hL : X.1 ≤ 260) : ∃ (n t : Nat) (c : Nat → Nat) (P : mT), f_L_portText X 0 (some 38) (some 39) (some 40) (mk S0) = some (nI (3 * n - 1 + 4 * t), mk P) ∧ PT X n t c P := by
  have h6 := atN_lt (cellN X 0) (m := 6) (by decide)
  have h4 := atN_lt (cellN X 0 >>> ((3 : Int32) &&& 31)) (m := 4) (by decide)
  generalize hn : 1 + atN (cellN X 0) 6 = n
  generalize ht : 1 + atN (cellN X 0 >>> ((3 : Int32) &&& 31)) 4 = t
  have key : ∀ (wd : Nat), 0 < wd → wd ≤ 6 → ∃ (c : Nat → Nat) (P : mT), f_L_portText_J73 X 0 (some 38) (some 39) (some 40) 0 (nI wd) (mk (uI (uI S0 38 3 (nI n)) 38 4 (nI t))) = some (nI (3 * n - 1 + 4 * t), mk P) ∧ PT X n t c P := by
    intro wd hw hw2
    generalize hS : uI (uI S0 38 3 (nI n)) 38 4 (nI t) = S2
    have e3 : S2.1 38 3 = nI n := by rw [← hS]; rfl
    have e4 : S2.1 38 4 = nI t := by rw [← hS]; rfl
    obtain ⟨f', g', c', r1, r2⟩ := l_L78 X hL (S := S2) (n := n) (wd := wd) (by omega) e3 hw hw2 n 0 mFuel (S2.2.1 40) (S2.2.1 39) (fun _ => 0) (by omega) ⟨fun e he => absurd he (by omega), fun e d _ hd => absurd hd (by omega), fun e he => absurd he (by omega), fun e he => absurd he (by omega)⟩ (by unfold mFuel; omega)
    rw [tx_id] at r1
    obtain ⟨K, A, B, g2, q1, q2, q3⟩ := l_L232 X hL (S := tx S2 f' g') (e := 3 * n - 1) (t := t) (by omega) (by omega) e4 t 0 mFuel ((tx S2 f' g').2.1 44) ((tx S2 f' g').2.1 45) ((tx S2 f' g').2.1 46) ((tx S2 f' g').2.1 39) (by omega) (fun j hj => absurd hj (by omega)) (by unfold mFuel; omega)
    rw [tz_id] at q1
    refine ⟨c', uI (tz (tx S2 f' g') K A B g2) 38 6 60, ?_, ⟨⟨by omega, by omega⟩, by omega, by omega⟩, ⟨e3, e4, ?_, rfl, ?_⟩, ?_, ?_, ?_, ?_, q2⟩
    · unfold f_L_portText_J73
      refine bnd r1 ?_
      refine bnd q1 ?_
      refine bnd (d37_S _ _) ?_
      rfl
    · show S2.1 38 5 = 0
      rw [← hS]; rfl
    · show S2.1 38 7 = 0
      rw [← hS]; rfl
    · intro o k ho
      show (if o = 38 ∧ k = 6 then (60 : Int32) else S2.1 o k) = 0
      rw [if_neg (fun z => ho z.1), ← hS]
      show (if o = 38 ∧ k = 4 then nI t else if o = 38 ∧ k = 3 then nI n else 0) = 0
      rw [if_neg (fun z => ho z.1), if_neg (fun z => ho z.1)]
    · intro r k1 k2 k3 k4 k5
      show (if r = 39 then g2 else if r = 46 then B else if r = 45 then A else if r = 44 then K else if r = 39 then g' else if r = 40 then f' else S2.2.1 r) = fun _ => 0
      rw [if_neg k1, if_neg k5, if_neg k4, if_neg k3, if_neg k1, if_neg k2, ← hS]
      rfl
    · show S2.2.2.2.2 = []
      rw [← hS]; rfl
    · obtain ⟨w1, w2, w3, w4⟩ := r2
      have q3' : ∀ j, j < 3 * n - 1 → g2 j = g' j := q3
      refine ⟨w1, w2, fun e he => ?_, fun e he => ?_⟩
      · show g2 (3 * e) = _ ∧ g2 (3 * e + 1) = _
        rw [q3' _ (by omega), q3' _ (by omega)]
        exact w3 e he
      · show g2 (3 * e + 2) = _
        rw [q3' _ (by omega)]
        exact w4 e he
  have go : ∃ (c : Nat → Nat) (P : mT), f_L_portText X 0 (some 38) (some 39) (some 40) (mk S0) = some (nI (3 * n - 1 + 4 * t), mk P) ∧ PT X n t c P := by
    have pre : ∀ R : Option (Int32 × mW), (if nI (atN (cellN X 0 >>> ((5 : Int32) &&& 31)) 2) = 0 then f_L_portText_J73 X 0 (some 38) (some 39) (some 40) 0 (nI 6) (mk (uI (uI S0 38 3 (nI n)) 38 4 (nI t))) else f_L_portText_J73 X 0 (some 38) (some 39) (some 40) 0 (nI 3) (mk (uI (uI S0 38 3 (nI n)) 38 4 (nI t)))) = R → f_L_portText X 0 (some 38) (some 39) (some 40) (mk S0) = R := by
      intro R hR
      rw [← hR]
      unfold f_L_portText
      refine bnd (l_cell X hL (k := 0) (by decide) _) ?_
      refine bnd (l_zero X _ _ _ _ _) ?_
      refine bnd (l_at _ (m := 6) (by decide) (by decide) _) ?_
      rw [show (1 : Int32) + nI (atN (cellN X 0) 6) = nI (1 + atN (cellN X 0) 6) from n_add0 1 _, hn]
      refine bnd (b0_S _ _) ?_
      refine bnd (l_at _ (m := 4) (by decide) (by decide) _) ?_
      rw [show (1 : Int32) + nI (atN (cellN X 0 >>> ((3 : Int32) &&& 31)) 4) = nI (1 + atN (cellN X 0 >>> ((3 : Int32) &&& 31)) 4) from n_add0 1 _, ht]
      refine bnd (b1_S _ _) ?_
      refine bnd (l_at _ (m := 2) (by decide) (by decide) _) ?_
      rfl
    by_cases z : nI (atN (cellN X 0 >>> ((5 : Int32) &&& 31)) 2) = 0
    · obtain ⟨c, P, r1, r2⟩ := key 6 (by decide) (by decide)
      exact ⟨c, P, pre _ ((if_pos z).trans r1), r2⟩
    · obtain ⟨c, P, r1, r2⟩ := key 3 (by decide) (by decide)
      exact ⟨c, P, pre _ ((if_neg z).trans r1), r2⟩
  obtain ⟨c, P, r1, r2⟩ := go
  exact ⟨n, t, c, P, r1, r2⟩
-- its letters
def chr (P : mT) : Nat → Nat := fun i => (P.2.1 39 i).toInt.toNat
theorem chr_of {P : mT} {i v : Nat} (h : P.2.1 39 i = nI v) (hv : v < 127) : chr P i = v ∧ P.2.1 39 i = nI (chr P i) := by
  have e : chr P i = v := by
    unfold chr
    rw [h, nT (by omega)]
    rfl
  exact ⟨e, by rw [e]; exact h⟩
theorem ltr_ok {kd : Nat} (h : kd ≤ 4) : ltr kd < 127 ∧ 1 ≤ ltr kd ∧ kn (ltr kd) = nI kd := by
  obtain ⟨k0, k1, k2, k3, k4⟩ := kn_let
  match kd, h with
  | 0, _ => exact ⟨by decide, by decide, k0⟩
  | 1, _ => exact ⟨by decide, by decide, k1⟩
  | 2, _ => exact ⟨by decide, by decide, k2⟩
  | 3, _ => exact ⟨by decide, by decide, k3⟩
  | 4, _ => exact ⟨by decide, by decide, k4⟩
/-- what is on each place of the text -/
def PL (X : mXs) (n t : Nat) (c : Nat → Nat) (h : Nat → Nat) : Prop := (∀ e, e < n → h (3 * e) = 48 + c e / 6 ∧ h (3 * e + 1) = 48 + c e % 6) ∧ (∀ e, e + 1 < n → h (3 * e + 2) = 44) ∧ ∀ j, j < t → h (3 * n - 1 + 4 * j) = (if j = 0 then 59 else 44) ∧ h (3 * n - 1 + 4 * j + 1) = ltr (KX X j) ∧ h (3 * n - 1 + 4 * j + 2) = 48 + AX X j ∧ h (3 * n - 1 + 4 * j + 3) = 48 + BX X j
theorem PT_PL {X : mXs} {n t : Nat} {c : Nat → Nat} {P : mT} (h : PT X n t c P) : PL X n t c (chr P) ∧ ∀ i, i < 3 * n - 1 + 4 * t → P.2.1 39 i = nI (chr P i) ∧ 1 ≤ chr P i ∧ chr P i < 127 := by
  obtain ⟨⟨⟨n1, n2⟩, t1, t2⟩, _, _, _, _, ⟨w1, w2, w3, w4⟩, u⟩ := h
  have hp : PL X n t c (chr P) := by
    refine ⟨fun e he => ?_, fun e he => (chr_of (w4 e he) (by decide)).1, fun j hj => ?_⟩
    · obtain ⟨a1, a2⟩ := w3 e he
      have := (w1 e he).2
      exact ⟨(chr_of a1 (by omega)).1, (chr_of a2 (by omega)).1⟩
    · obtain ⟨_, a2, a3, a4, a5⟩ := u j hj
      have := AX_le X j
      have := BX_le X j
      refine ⟨(chr_of a2 (by split <;> decide)).1, (chr_of a3 (ltr_ok (KX_le X j)).1).1, (chr_of a4 (by omega)).1, (chr_of a5 (by omega)).1⟩
  refine ⟨hp, fun i hi => ?_⟩
  by_cases hs : i < 3 * n - 1
  · obtain ⟨a1, a2⟩ := w3 (i / 3) (by omega)
    have hc := (w1 (i / 3) (by omega)).2
    have h3 : i % 3 = 0 ∨ i % 3 = 1 ∨ i % 3 = 2 := by omega
    rcases h3 with h3 | h3 | h3
    · rw [show 3 * (i / 3) = i by omega] at a1
      obtain ⟨b1, b2⟩ := chr_of a1 (by omega)
      exact ⟨b2, by omega, by omega⟩
    · rw [show 3 * (i / 3) + 1 = i by omega] at a2
      obtain ⟨b1, b2⟩ := chr_of a2 (by omega)
      exact ⟨b2, by omega, by omega⟩
    · have a3 := w4 (i / 3) (by omega)
      rw [show 3 * (i / 3) + 2 = i by omega] at a3
      obtain ⟨b1, b2⟩ := chr_of a3 (by decide)
      exact ⟨b2, by omega, by omega⟩
  · obtain ⟨j, hj⟩ : ∃ j, j = (i - (3 * n - 1)) / 4 := ⟨_, rfl⟩
    obtain ⟨_, a2, a3, a4, a5⟩ := u j (by omega)
    have hA := AX_le X j
    have hB := BX_le X j
    obtain ⟨l1, l2, _⟩ := ltr_ok (KX_le X j)
    have h4 : i = 3 * n - 1 + 4 * j ∨ i = 3 * n - 1 + 4 * j + 1 ∨ i = 3 * n - 1 + 4 * j + 2 ∨ i = 3 * n - 1 + 4 * j + 3 := by omega
    rcases h4 with h4 | h4 | h4 | h4
    · rw [← h4] at a2
      obtain ⟨b1, b2⟩ := chr_of a2 (by split <;> decide)
      refine ⟨b2, ?_, ?_⟩
      · rw [b1]; split <;> decide
      · rw [b1]; split <;> decide
    · rw [← h4] at a3
      obtain ⟨b1, b2⟩ := chr_of a3 l1
      exact ⟨b2, by omega, by omega⟩
    · rw [← h4] at a4
      obtain ⟨b1, b2⟩ := chr_of a4 (by omega)
      exact ⟨b2, by omega, by omega⟩
    · rw [← h4] at a5
      obtain ⟨b1, b2⟩ := chr_of a5 (by omega)
      exact ⟨b2, by omega, by omega⟩
theorem cz_is {h c : Nat → Nat} {i : Nat} (h1 : h (3 * i) = 48 + c i / 6) (h2 : h (3 * i + 1) = 48 + c i % 6) : cz h i = nI (c i) := by
  unfold cz
  rw [h1, h2, show (48 : Int32) = nI 48 from rfl, show (6 : Int32) = nI 6 from rfl, n_sub (by omega), n_mul, n_add, n_sub (by omega)]
  exact congrArg nI (by omega)
theorem rd_B {h : Nat → Nat} {e L : Nat} (h0 : ¬ e = 0) (hg : ∀ k, e < k → k < L → goodB h e k = true) : ∀ d k, k + d = L → e < k → rd h d e k = (L, e)
  | 0, k, hk, he => by
    rw [rd, show k = L by omega]
  | d + 1, k, hk, he => by
    rw [rd, if_neg h0, if_pos (hg k he (by omega))]
    exact rd_B h0 hg d (k + 1) (by omega) (by omega)
theorem rd_A {h : Nat → Nat} {e L : Nat} (h0 : ¬ e = 0) (heL : e < L) (h3 : e % 3 = 2 ∧ h e = 59) (ha : ∀ k, k ≤ e → goodA h k = true) (hn : ∀ k, k < e → ¬ (k % 3 = 2 ∧ h k = 59)) (hg : ∀ k, e < k → k < L → goodB h e k = true) : ∀ d k, k + d = L → k ≤ e → rd h d 0 k = (L, e)
  | 0, k, hk, he => absurd he (by omega)
  | d + 1, k, hk, he => by
    rw [rd, if_pos rfl, if_pos (ha k he)]
    by_cases hke : k = e
    · subst hke
      rw [if_pos h3]
      exact rd_B h0 hg d (k + 1) (by omega) (by omega)
    · rw [if_neg (hn k (by omega))]
      exact rd_A h0 heL h3 ha hn hg d (k + 1) (by omega) (by omega)
theorem PL_rd {X : mXs} {n t : Nat} {c h : Nat → Nat} (hp : PL X n t c h) (n1 : 1 ≤ n) (n2 : n ≤ 6) (t1 : 1 ≤ t) (t2 : t ≤ 4) (hc : ∀ e, e < n → c e < 36) (hd : ∀ e d, e < d → d < n → c e ≠ c d) : rd h (3 * n - 1 + 4 * t) 0 0 = (3 * n - 1 + 4 * t, 3 * n - 1) := by
  obtain ⟨p1, p2, p3⟩ := hp
  have hcz : ∀ i, i < n → cz h i = nI (c i) := fun i hi => cz_is (p1 i hi).1 (p1 i hi).2
  have h59 : h (3 * n - 1) = 59 := by
    have := (p3 0 (by omega)).1
    rwa [if_pos rfl, Nat.mul_zero, Nat.add_zero] at this
  refine rd_A (by omega) (by omega) ⟨by omega, h59⟩ (fun k hk => ?_) (fun k hk hz => ?_) (fun k hk hkL => ?_) _ 0 (by omega) (by omega)
  · have h3 : k % 3 = 0 ∨ k % 3 = 1 ∨ k % 3 = 2 := by omega
    unfold goodA
    rcases h3 with h3 | h3 | h3
    · obtain ⟨a1, a2⟩ := p1 (k / 3) (by omega)
      have := hc (k / 3) (by omega)
      rw [show 3 * (k / 3) = k by omega] at a1
      rw [if_pos h3, decide_eq_true]
      omega
    · obtain ⟨a1, a2⟩ := p1 (k / 3) (by omega)
      have := hc (k / 3) (by omega)
      rw [show 3 * (k / 3) + 1 = k by omega] at a2
      rw [if_neg (by omega), if_pos h3, decide_eq_true (by omega), Bool.true_and]
      have ha : anyB (fun i => decide (cz h i = cz h (k / 3))) (k / 3) = false := by
        refine Bool.eq_false_iff.mpr fun hz => ?_
        obtain ⟨e, he, hez⟩ := anyB_iff.mp hz
        have hez' := of_decide_eq_true hez
        rw [hcz e (by omega), hcz (k / 3) (by omega), n_eq (by have := hc e (by omega); omega) (by omega)] at hez'
        exact hd e (k / 3) he (by omega) hez'
      rw [ha]
      rfl
    · rw [if_neg (by omega), if_neg (by omega), decide_eq_true]
      by_cases hk2 : k = 3 * n - 1
      · rw [hk2]; exact Or.inl h59
      · have := p2 (k / 3) (by omega)
        rw [show 3 * (k / 3) + 2 = k by omega] at this
        exact Or.inr ⟨this, by omega⟩
  · have := p2 (k / 3) (by omega)
    rw [show 3 * (k / 3) + 2 = k by omega] at this
    omega
  · obtain ⟨j, hj⟩ : ∃ j, j = (k - (3 * n - 1)) / 4 := ⟨_, rfl⟩
    obtain ⟨a2, a3, a4, a5⟩ := p3 j (by omega)
    have hA := AX_le X j
    have hB := BX_le X j
    obtain ⟨l1, l2, l3⟩ := ltr_ok (KX_le X j)
    have h4 : k = 3 * n - 1 + 4 * j ∨ k = 3 * n - 1 + 4 * j + 1 ∨ k = 3 * n - 1 + 4 * j + 2 ∨ k = 3 * n - 1 + 4 * j + 3 := by omega
    unfold goodB
    rcases h4 with h4 | h4 | h4 | h4
    · rw [← h4, if_neg (by omega)] at a2
      rw [if_neg (by omega), if_pos (by omega), decide_eq_true]
      exact ⟨a2, by omega⟩
    · rw [← h4] at a3
      rw [if_pos (by omega), a3, l3, decide_eq_true]
      exact n_m1 (by have := KX_le X j; omega)
    · rw [← h4] at a4
      rw [if_neg (by omega), if_neg (by omega), decide_eq_true]
      omega
    · rw [← h4] at a5
      rw [if_neg (by omega), if_neg (by omega), decide_eq_true]
      omega
