-- six passes find a free cell
theorem pig : ∀ (i : Nat) (h : Nat → Nat), (∀ r, r ≤ i → h r < i) → ∃ r s : Nat, r < s ∧ s ≤ i ∧ h r = h s
  | 0, h, hh => absurd (hh 0 (Nat.le_refl 0)) (by omega)
  | i + 1, h, hh => by
    by_cases he : ∃ r, r ≤ i ∧ h r = h (i + 1)
    · obtain ⟨r, h1, h2⟩ := he
      exact ⟨r, i + 1, by omega, Nat.le_refl _, h2⟩
    · have hne : ∀ r, r ≤ i → ¬ h r = h (i + 1) := fun r hr hz => he ⟨r, hr, hz⟩
      have hv := hh (i + 1) (Nat.le_refl _)
      obtain ⟨r, s, h1, h2, h3⟩ := pig i (fun r => if h r = i then h (i + 1) else h r) (fun r hr => by
        have h4 := hh r (by omega)
        have h5 := hne r hr
        show (if h r = i then h (i + 1) else h r) < i
        by_cases z : h r = i
        · rw [if_pos z]; omega
        · rw [if_neg z]; omega)
      refine ⟨r, s, h1, by omega, ?_⟩
      have h3' : (if h r = i then h (i + 1) else h r) = (if h s = i then h (i + 1) else h s) := h3
      have n1 := hne r (by omega)
      have n2 := hne s h2
      by_cases z1 : h r = i
      · by_cases z2 : h s = i
        · omega
        · rw [if_pos z1, if_neg z2] at h3'
          exact absurd h3'.symm n2
      · by_cases z2 : h s = i
        · rw [if_neg z1, if_pos z2] at h3'
          exact absurd h3' n1
        · rw [if_neg z1, if_neg z2] at h3'
          exact h3'
/-- one look along the i cells that are taken -/
def ps (c : Nat → Nat) (i a : Nat) : Nat := it (fun e a => if c e = a then (a + 1) % 36 else a) i a
def mem (c : Nat → Nat) (i a : Nat) : Prop := ∃ e, e < i ∧ c e = a
theorem ps_lt {c : Nat → Nat} {i a : Nat} (ha : a < 36) : ps c i a < 36 :=
  it_inv (fun _ a => a < 36) ha (fun k b _ hb => by
    show (if c k = b then (b + 1) % 36 else b) < 36
    by_cases z : c k = b
    · rw [if_pos z]; omega
    · rw [if_neg z]; exact hb)
theorem ps_out {c : Nat → Nat} {i a : Nat} (h : ¬ mem c i a) : ps c i a = a :=
  it_inv (fun _ b => b = a) rfl (fun k b hk hb => by
    show (if c k = b then (b + 1) % 36 else b) = a
    rw [if_neg (fun z => h ⟨k, hk, z.trans hb⟩)]
    exact hb)
theorem ps_in {c : Nat → Nat} {i a : Nat} (ha : a < 36) : ∃ m : Nat, ps c i a = (a + m) % 36 ∧ (∀ r, r < m → mem c i ((a + r) % 36)) ∧ (mem c i a → 1 ≤ m) := by
  have key : ∀ k, k ≤ i → ∃ m : Nat, it (fun e a => if c e = a then (a + 1) % 36 else a) k a = (a + m) % 36 ∧ (∀ r, r < m → mem c i ((a + r) % 36)) ∧ ((∃ e, e < k ∧ c e = a) → 1 ≤ m) := by
    intro k
    induction k with
    | zero => exact fun _ => ⟨0, (show a = _ by omega), fun r hr => absurd hr (by omega), fun ⟨e, he, _⟩ => absurd he (by omega)⟩
    | succ k ih =>
      intro hk
      obtain ⟨m, h1, h2, h3⟩ := ih (by omega)
      rw [it]
      by_cases z : c k = it (fun e a => if c e = a then (a + 1) % 36 else a) k a
      · rw [if_pos z]
        refine ⟨m + 1, by rw [h1]; omega, fun r hr => ?_, fun _ => by omega⟩
        by_cases hrm : r = m
        · rw [hrm]
          exact ⟨k, by omega, z.trans h1⟩
        · exact h2 r (by omega)
      · rw [if_neg z]
        refine ⟨m, h1, h2, fun ⟨e, he, hz⟩ => ?_⟩
        by_cases hek : e = k
        · subst hek
          by_cases hm : m = 0
          · subst hm
            exact absurd (hz.trans (show a = (a + 0) % 36 by omega)) (fun w => z (w.trans h1.symm))
          · omega
        · exact h3 ⟨e, by omega, hz⟩
  exact key i (Nat.le_refl i)
theorem six {c : Nat → Nat} {i a : Nat} (hi : i ≤ 5) (ha : a < 36) : it (fun _ b => ps c i b) 6 a < 36 ∧ ¬ mem c i (it (fun _ b => ps c i b) 6 a) := by
  have key : ∀ p, ∃ M : Nat, it (fun _ b => ps c i b) p a = (a + M) % 36 ∧ (∀ r, r < M → mem c i ((a + r) % 36)) ∧ (p ≤ M ∨ ¬ mem c i (it (fun _ b => ps c i b) p a)) := by
    intro p
    induction p with
    | zero => exact ⟨0, (show a = _ by omega), fun r hr => absurd hr (by omega), Or.inl (Nat.le_refl 0)⟩
    | succ p ih =>
      obtain ⟨M, h1, h2, h3⟩ := ih
      rw [it]
      by_cases hm : mem c i (it (fun _ b => ps c i b) p a)
      · obtain ⟨m, g1, g2, g3⟩ := ps_in (c := c) (i := i) (a := it (fun _ b => ps c i b) p a) (by rw [h1]; omega)
        have hM : p ≤ M := h3.resolve_right (fun z => z hm)
        refine ⟨M + m, by rw [g1, h1]; omega, fun r hr => ?_, Or.inl ?_⟩
        · by_cases hrM : r < M
          · exact h2 r hrM
          · have := g2 (r - M) (by omega)
            rw [h1] at this
            rwa [show ((a + M) % 36 + (r - M)) % 36 = (a + r) % 36 by omega] at this
        · have := g3 hm
          omega
      · rw [ps_out hm]
        exact ⟨M, h1, h2, Or.inr hm⟩
  obtain ⟨M, h1, h2, h3⟩ := key 6
  refine ⟨by rw [h1]; omega, ?_⟩
  rcases h3 with h3 | h3
  · exfalso
    obtain ⟨r, s, g1, g2, g3⟩ := pig i (fun r => if hr : r < M then Classical.choose (h2 r hr) else 0) (fun r hr => by
      have hrM : r < M := by omega
      show (if hr : r < M then Classical.choose (h2 r hr) else 0) < i
      rw [dif_pos hrM]
      exact (Classical.choose_spec (h2 r hrM)).1)
    have hrM : r < M := by omega
    have hsM : s < M := by omega
    have g3' : (if hr : r < M then Classical.choose (h2 r hr) else 0) = (if hr : s < M then Classical.choose (h2 s hr) else 0) := g3
    rw [dif_pos hrM, dif_pos hsM] at g3'
    have e1 := (Classical.choose_spec (h2 r hrM)).2
    have e2 := (Classical.choose_spec (h2 s hsM)).2
    rw [g3', e2] at e1
    omega
  · exact h3
