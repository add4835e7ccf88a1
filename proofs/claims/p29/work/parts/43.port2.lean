theorem rd_le (c : Nat → Nat) : ∀ d e k, (rd c d e k).1 ≤ k + d
  | 0, e, k => Nat.le_refl k
  | d + 1, e, k => by
    rw [rd]
    by_cases h0 : e = 0
    · rw [if_pos h0]
      by_cases hg : goodA c k = true
      · rw [if_pos hg]
        have := rd_le c d (if k % 3 = 2 ∧ c k = 59 then k else 0) (k + 1)
        omega
      · rw [if_neg hg]
        show k ≤ _
        omega
    · rw [if_neg h0]
      by_cases hg : goodB c e k = true
      · rw [if_pos hg]
        have := rd_le c d e (k + 1)
        omega
      · rw [if_neg hg]
        show k ≤ _
        omega
theorem bN_zero {p : Nat → Bool} {n : Nat} (h : ∀ k, k < n → p k = false) : (0 : Int32) = nI (bN p n) := by rw [bN_none h]; rfl
-- the class settles
def poC (T : mT) (n t p : Nat) (kd : Nat → Nat) : mT := uI (uI (stl (bgn (uI (uI (uI T 0 7 (nI n)) 0 8 (nI t)) 0 10 0)) kd t) 1 1 0) 0 9 (nI (p + 1))
theorem c_settle {T : mT} {n t p : Nat} {kd : Nat → Nat} (ht : t ≤ 4) (e4 : T.1 3 4 = nI n) (e5 : T.1 3 5 = nI t) (hk : ∀ k, k < t → kd k ≤ 4 ∧ T.2.1 5 k = nI (kd k)) : f_X10_settle 0 (mk T) = some (mk (stl (bgn (uI (uI (uI T 0 7 (nI n)) 0 8 (nI t)) 0 10 0)) kd t)) := by
  unfold f_X10_settle
  refine bnd (rR_0_1 _) ?_
  refine bnd (rI_3_4 _) ?_
  rw [e4]
  refine bnd (wI_0_7 _ _) ?_
  refine bnd (rR_0_1 _) ?_
  refine bnd (rI_3_5 _) ?_
  rw [show (uI T 0 7 (nI n)).1 3 5 = nI t from e5]
  refine bnd (wI_0_8 _ _) ?_
  refine bnd (wZ_0_10 _ 0 (Or.inl rfl)) ?_
  refine bnd (rR_0_3 _) ?_
  refine bnd (rR_0_1 _) ?_
  refine bnd (kk_9 _) ?_
  refine bnd (s_bgn _) ?_
  refine bnd (s_stl (T := bgn (uI (uI (uI T 0 7 (nI n)) 0 8 (nI t)) 0 10 0)) ht rfl hk) ?_
  rfl
