-- the least price of covering a crowd: tosses 0 .. r-1, each at most once
def Gm (I : Nat) (p c : Nat → Nat) : Nat → Nat → Nat
  | 0, s => if s = 0 then 0 else I
  | r + 1, s => min (Gm I p c r s) (p r + Gm I p c r (wo s (c r)))
theorem wo_comm (s a b : Nat) : wo (wo s a) b = wo (wo s b) a := by
  unfold wo
  rw [Nat.and_assoc, Nat.and_comm (63 - a), ← Nat.and_assoc]
theorem wo_self (s a : Nat) : wo (wo s a) a = wo s a := by
  unfold wo
  rw [Nat.and_assoc, Nat.and_self]
theorem k_dis : ∀ s a : Fin 64, s.val &&& a.val = 0 → wo s.val a.val = s.val := by decide +kernel
theorem wo_dis {s a : Nat} (hs : s < 64) (ha : a < 64) (h : s &&& a = 0) : wo s a = s := k_dis ⟨s, hs⟩ ⟨a, ha⟩ h
theorem k_pl : ∀ s a : Fin 64, ¬ s.val &&& a.val = 0 → pop (wo s.val a.val) < pop s.val := by decide +kernel
theorem pop_wo {s a : Nat} (hs : s < 64) (ha : a < 64) (h : ¬ s &&& a = 0) : pop (wo s a) < pop s := k_pl ⟨s, hs⟩ ⟨a, ha⟩ h
theorem wo64 {s : Nat} (a : Nat) (hs : s < 64) : wo s a < 64 := Nat.lt_of_le_of_lt (wo_le s a) hs
theorem k_p0 : ∀ s : Fin 64, pop s.val = 0 → s.val = 0 := by decide +kernel
theorem Gm_I (I : Nat) (p c : Nat → Nat) : ∀ r s, Gm I p c r s ≤ I
  | 0, s => by
    rw [Gm]
    by_cases h : s = 0
    · rw [if_pos h]; omega
    · rw [if_neg h]; omega
  | r + 1, s => by
    rw [Gm]
    have := Gm_I I p c r s
    omega
theorem Gm_0 (I : Nat) (p c : Nat → Nat) : ∀ r, Gm I p c r 0 = 0
  | 0 => rfl
  | r + 1 => by
    rw [Gm, Gm_0 I p c r]
    omega
theorem Gm_step (I : Nat) (p c : Nat → Nat) (r s : Nat) : Gm I p c (r + 1) s ≤ Gm I p c r s := by
  rw [Gm]; omega
theorem Gm_mono (I : Nat) (p c : Nat → Nat) (s r : Nat) : ∀ d, Gm I p c (r + d) s ≤ Gm I p c r s
  | 0 => Nat.le_refl _
  | d + 1 => by
    have h1 := Gm_mono I p c s r d
    have h2 := Gm_step I p c (r + d) s
    have : r + (d + 1) = r + d + 1 := by omega
    rw [this]
    omega
theorem Gm_le (I : Nat) (p c : Nat → Nat) (s : Nat) {r r' : Nat} (h : r ≤ r') : Gm I p c r' s ≤ Gm I p c r s := by
  have := Gm_mono I p c s r (r' - r)
  rwa [show r + (r' - r) = r' by omega] at this
theorem Gm_A (I : Nat) (p c : Nat → Nat) : ∀ (r q s : Nat), q < r → Gm I p c r s ≤ p q + Gm I p c r (wo s (c q))
  | 0, q, s, h => absurd h (by omega)
  | r + 1, q, s, h => by
    by_cases hq : q = r
    · subst hq
      have h1 : Gm I p c (q + 1) (wo s (c q)) = Gm I p c q (wo s (c q)) := by
        rw [Gm, wo_self]; omega
      rw [h1, Gm]
      omega
    · have h1 := Gm_A I p c r q s (by omega)
      have h2 := Gm_A I p c r q (wo s (c r)) (by omega)
      rw [Gm, Gm, wo_comm s (c q) (c r)]
      omega
theorem Gm_B (I : Nat) (p c : Nat → Nat) (hp : ∀ q, 0 < p q) (hc : ∀ q, c q < 64) : ∀ (r s : Nat), s < 64 → ¬ s = 0 → Gm I p c r s < I → ∃ q, q < r ∧ ¬ s &&& c q = 0 ∧ p q + Gm I p c r (wo s (c q)) = Gm I p c r s
  | 0, s, hs, h0, hi => by
    rw [Gm, if_neg h0] at hi
    omega
  | r + 1, s, hs, h0, hi => by
    by_cases hm : Gm I p c r s ≤ p r + Gm I p c r (wo s (c r))
    · have he : Gm I p c (r + 1) s = Gm I p c r s := by rw [Gm]; omega
      obtain ⟨q, q1, q2, q3⟩ := Gm_B I p c hp hc r s hs h0 (by omega)
      refine ⟨q, by omega, q2, ?_⟩
      have h1 := Gm_A I p c (r + 1) q s (by omega)
      have h2 := Gm_step I p c r (wo s (c q))
      omega
    · have he : Gm I p c (r + 1) s = p r + Gm I p c r (wo s (c r)) := by rw [Gm]; omega
      have hd : ¬ s &&& c r = 0 := by
        intro hz
        rw [wo_dis hs (hc r) hz] at hm
        omega
      refine ⟨r, by omega, hd, ?_⟩
      have h1 := Gm_A I p c (r + 1) r s (by omega)
      have h2 := Gm_step I p c r (wo s (c r))
      omega
/-- toss q belongs to a best cover of s -/
def qual (I : Nat) (p c : Nat → Nat) (T q s : Nat) : Prop := ¬ s &&& c q = 0 ∧ p q + Gm I p c T (wo s (c q)) = Gm I p c T s
theorem Gm_take {I : Nat} {p c : Nat → Nat} (hp : ∀ q, 0 < p q) (hc : ∀ q, c q < 64) {T r s : Nat} (hs : s < 64) (hr : r < T) (h1 : Gm I p c (r + 1) s = Gm I p c T s) (h2 : p r + Gm I p c r (wo s (c r)) = Gm I p c (r + 1) s) : qual I p c T r s := by
  have hd : ¬ s &&& c r = 0 := by
    intro hz
    rw [wo_dis hs (hc r) hz] at h2
    have := Gm_step I p c r s
    have := hp r
    omega
  refine ⟨hd, ?_⟩
  have h3 := Gm_A I p c T r s hr
  have h4 := Gm_le I p c (wo s (c r)) (show r ≤ T by omega)
  omega
theorem Gm_C {I : Nat} {p c : Nat → Nat} (hp : ∀ q, 0 < p q) (hc : ∀ q, c q < 64) {T s : Nat} (hs : s < 64) : ∀ (d : Nat), d ≤ T → (∀ q, T - d ≤ q → q < T → ¬ qual I p c T q s) → Gm I p c (T - d) s = Gm I p c T s
  | 0, _, _ => rfl
  | d + 1, hd, h => by
    have h1 := Gm_C hp hc hs d (by omega) (fun q q1 q2 => h q (by omega) q2)
    have e : T - d = (T - (d + 1)) + 1 := by omega
    have h2 := h (T - (d + 1)) (Nat.le_refl _) (by omega)
    by_cases hm : Gm I p c (T - (d + 1)) s ≤ p (T - (d + 1)) + Gm I p c (T - (d + 1)) (wo s (c (T - (d + 1))))
    · rw [← h1, e, Gm]
      omega
    · refine absurd (Gm_take hp hc hs (by omega) (by rw [← e]; exact h1) ?_) h2
      rw [Gm]
      omega
theorem qual_down {I : Nat} {p c : Nat → Nat} {T q q' s : Nat} (hqq : q < T) (hq' : q' < T) (h : qual I p c T q s) (hn : ¬ qual I p c T q' s) : ¬ qual I p c T q' (wo s (c q)) := by
  intro ⟨h1, h2⟩
  refine hn ⟨?_, ?_⟩
  · intro hz
    apply h1
    unfold wo
    rw [Nat.and_assoc, Nat.and_comm (63 - c q), ← Nat.and_assoc, hz, Nat.zero_and]
  · have h3 := Gm_A I p c T q' s hq'
    have h5 := h.2
    rw [wo_comm] at h2
    have h4 := Gm_A I p c T q (wo s (c q')) hqq
    omega
theorem k_disw : ∀ s a : Fin 64, wo s.val a.val &&& a.val = 0 := by decide +kernel
theorem qual_self {I : Nat} {p c : Nat → Nat} {T q s : Nat} (hs : s < 64) (hc : c q < 64) : ¬ qual I p c T q (wo s (c q)) := fun h => h.1 (k_disw ⟨s, hs⟩ ⟨c q, hc⟩)
/-- a step of the scan: toss r is taken if and only if it belongs to a best cover -/
theorem Gm_scan {I : Nat} {p c : Nat → Nat} (hp : ∀ q, 0 < p q) (hc : ∀ q, c q < 64) {T r s : Nat} (hs : s < 64) (hr : r < T) (hn : ∀ q, r < q → q < T → ¬ qual I p c T q s) : (p r + Gm I p c r (wo s (c r)) = Gm I p c (r + 1) s ↔ qual I p c T r s) := by
  have h1 : Gm I p c (r + 1) s = Gm I p c T s := by
    have := Gm_C (T := T) hp hc hs (T - (r + 1)) (by omega) (fun q q1 q2 => hn q (by omega) q2)
    rwa [show T - (T - (r + 1)) = r + 1 by omega] at this
  refine ⟨fun h => Gm_take hp hc hs hr h1 h, fun h => ?_⟩
  have h2 : Gm I p c r (wo s (c r)) = Gm I p c T (wo s (c r)) := by
    have := Gm_C (T := T) hp hc (wo64 (c r) hs) (T - r) (by omega) (fun q q1 q2 => by
      by_cases hqr : q = r
      · subst hqr; exact qual_self hs (hc q)
      · exact qual_down hr q2 h (hn q (by omega) q2))
    rwa [show T - (T - r) = r by omega] at this
  rw [h2, h1]
  exact h.2
-- two ways to write a price down
def GQ (s x y : Nat) : Prop := (x = 1048576 ∧ y = 1000000) ∨ ∃ B k : Nat, x = 16 * B + k ∧ y = 100 * B + k ∧ k ≤ pop s ∧ B ≤ 5 * k
theorem Gm_Q {b c : Nat → Nat} (hb : ∀ q, 1 ≤ b q ∧ b q ≤ 5) (hc : ∀ q, c q < 64) : ∀ (r s : Nat), s < 64 → GQ s (Gm 1048576 (fun q => 16 * b q + 1) c r s) (Gm 1000000 (fun q => 100 * b q + 1) c r s)
  | 0, s, hs => by
    rw [Gm, Gm]
    by_cases h : s = 0
    · rw [if_pos h, if_pos h]
      exact Or.inr ⟨0, 0, rfl, rfl, by omega, by omega⟩
    · rw [if_neg h, if_neg h]
      exact Or.inl ⟨rfl, rfl⟩
  | r + 1, s, hs => by
    have h1 := Gm_Q hb hc r s hs
    have h2 := Gm_Q hb hc r (wo s (c r)) (wo64 _ hs)
    have h3 := hb r
    have h4 := pop_le s
    rw [Gm, Gm]
    by_cases hd : s &&& c r = 0
    · rw [wo_dis hs (hc r) hd]
      rw [Nat.min_eq_left (by omega), Nat.min_eq_left (by omega)]
      exact h1
    · have h5 := pop_wo hs (hc r) hd
      rcases h1 with ⟨e1, e2⟩ | ⟨B, k, e1, e2, e3, e4⟩
      · rcases h2 with ⟨f1, f2⟩ | ⟨B', k', f1, f2, f3, f4⟩
        · left
          omega
        · right
          exact ⟨b r + B', k' + 1, by omega, by omega, by omega, by omega⟩
      · rcases h2 with ⟨f1, f2⟩ | ⟨B', k', f1, f2, f3, f4⟩
        · right
          exact ⟨B, k, by omega, by omega, e3, e4⟩
        · right
          by_cases hl : 16 * B + k ≤ 16 * (b r + B') + (k' + 1)
          · exact ⟨B, k, by omega, by omega, e3, e4⟩
          · exact ⟨b r + B', k' + 1, by omega, by omega, by omega, by omega⟩
