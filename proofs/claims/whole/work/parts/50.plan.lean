theorem s_plan {S : mT} {n t V : Nat} (hn : n ≤ 6) (ht : t ≤ 4) (hV : V < 64) (e : S.1 0 7 = nI n) (e2 : S.1 0 8 = nI t) (e4 : S.1 9 8 = S.1 38 5) (hK : KR S t) (hC : NCells S n 9 rNow) (hT : NTurn S t 9 rNow) : ∃ P, f_X10_planFor 0 (nI V) (mk S) = some (mk P) ∧ ob P = ob S ∧ P.1 31 6 = nI (GC S n (36 * t) (36 * t) V) ∧ (GC S n (36 * t) (36 * t) V < 1048576 → ∃ K, K ≤ 6 ∧ P.1 31 5 = nI K ∧ sqn S n (36 * t) V K = 0 ∧ ∀ j, j < K → ¬ sqn S n (36 * t) V j = 0 ∧ P.2.1 36 j = nI (nxt S n (36 * t) (sqn S n (36 * t) V j))) := by
  obtain ⟨h, b1, b2⟩ := s_begin S
  have hp0 : PI S n V (36 * 0) (cpy 144 (fun _ => 0) (S.2.1 32), cpy 144 (fun _ => 0) (S.2.1 33), h) := ⟨fun y hy => absurd hy (by omega), fun y _ hy => cpy_lt (s := fun _ => (0 : Int32)) hy, fun c hc => b2 c hc⟩
  obtain ⟨p, k1, k2⟩ := pf2 (V := V) hn ht e e2 e4 hK hC hT (S.2.1 35) t 0 mFuel _ (by omega) (by unfold mFuel; omega) hp0
  obtain ⟨i, k3, k4⟩ := s_sol (S := S) (n := n) (V := V) (T := 36 * t) hn hV (f := p.1) (g := p.2.1) (h := p.2.2) (i0 := upd (S.2.1 35) 0 0) k2.2.2 (by rw [upd_at, if_pos rfl])
  have lg := GC_le S n (36 * t) (36 * t) V
  have hA : ∀ A : mT, A = uI (m32 S p.1 p.2.1 p.2.2 i) 31 6 (nI (GC S n (36 * t) (36 * t) V)) → ∃ P, f_X4_choose 31 (nI V) (mk A) = some (mk P) ∧ ob P = ob S ∧ P.1 31 6 = nI (GC S n (36 * t) (36 * t) V) ∧ (GC S n (36 * t) (36 * t) V < 1048576 → ∃ K, K ≤ 6 ∧ P.1 31 5 = nI K ∧ sqn S n (36 * t) V K = 0 ∧ ∀ j, j < K → ¬ sqn S n (36 * t) V j = 0 ∧ P.2.1 36 j = nI (nxt S n (36 * t) (sqn S n (36 * t) V j))) := by
    intro A hA
    have hoA : ob A = ob S := by
      rw [hA]
      exact (ob_I rfl).trans ((ob_A rfl).trans ((ob_A rfl).trans ((ob_A rfl).trans (ob_A rfl))))
    have r0 : A.2.1 32 = p.1 := by rw [hA]; rfl
    have r1 : A.2.1 33 = p.2.1 := by rw [hA]; rfl
    have r3 : A.2.1 35 = i := by rw [hA]; rfl
    have e6 : A.1 31 6 = nI (GC S n (36 * t) (36 * t) V) := by rw [hA]; rfl
    have h0 : cho A (A.2.1 36) 0 = uI A 31 5 0 := by
      unfold cho
      rw [uA_id]
      rfl
    by_cases hi : GC S n (36 * t) (36 * t) V < 1048576
    · obtain ⟨K, r', c1, c2, c3, c4⟩ := s_cho hn (show 36 * t ≤ 144 by omega) hV hi k2 k4 r0 r1 r3 e6 6 0 mFuel (A.2.1 36) (by omega) (by unfold mFuel; omega) (fun j hj => absurd hj (by omega))
      refine ⟨cho A r' K, ?_, (ob_I rfl).trans ((ob_A rfl).trans hoA), e6, fun _ => ⟨K, c2, rfl, c3, c4⟩⟩
      unfold f_X4_choose
      refine bnd (wI_31_5 _ _) ?_
      rw [← h0]
      refine bnd c1 ?_
      rfl
    · refine ⟨uI A 31 5 0, ?_, (ob_I rfl).trans hoA, e6, fun z => absurd z hi⟩
      unfold f_X4_choose
      refine bnd (wI_31_5 _ _) ?_
      refine bnd (a := mk (uI A 31 5 0)) ?_ rfl
      rw [show mFuel = 999 + 1 from rfl]
      generalize 999 = m
      simp only [f_X4_choose_L9]
      rw [if_neg (by decide)]
      by_cases hv : nI V = 0
      · rw [if_pos hv]
      · rw [if_neg hv]
        refine bnd (rI_31_6 _) ?_
        rw [show (uI A 31 5 0).1 31 6 = nI (GC S n (36 * t) (36 * t) V) from e6, if_pos (show (1048576 : Int32) ≤ nI (GC S n (36 * t) (36 * t) V) by rw [show (1048576 : Int32) = nI 1048576 from rfl, n_le (by omega) (by omega)]; omega)]
  obtain ⟨P, q1, q2, q3, q4⟩ := hA _ rfl
  refine ⟨P, ?_, q2, q3, q4⟩
  unfold f_X10_planFor
  refine bnd (rR_0_5 _) ?_
  refine bnd (kk_31 _) ?_
  refine bnd b1 ?_
  refine bnd k1 ?_
  refine bnd (rR_0_5 _) ?_
  refine bnd (kk_31 _) ?_
  refine bnd (a := mk (uI (m32 S p.1 p.2.1 p.2.2 i) 31 6 (nI (GC S n (36 * t) (36 * t) V)))) ?_ ?_
  · unfold f_X4_solve
    refine bnd (rR_31_3 _) ?_
    refine bnd ((s_put (k := 0) (aG_35 _) (by decide) (by decide) _).trans (congrArg some (aW_35 _ _))) ?_
    rw [m32_r3, m32_3]
    refine bnd k3 ?_
    refine bnd (rR_31_3 _) ?_
    refine bnd (s_at (aG_35 _) (by decide) hV) ?_
    rw [m32_r3, k4 V hV (Nat.and_self V)]
    refine bnd (wI_31_6 _ _) ?_
    rfl
  refine bnd (rR_0_5 _) ?_
  refine bnd (kk_31 _) ?_
  refine bnd q1 ?_
  rfl
