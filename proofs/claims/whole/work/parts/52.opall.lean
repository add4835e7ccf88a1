def vV (v : Int32) : Prop := v.toInt = 0 ∨ v.toInt = 1 ∨ (10 ≤ v.toInt ∧ v.toInt ≤ 15)
theorem vV_x {v : Int32} (h : vV v) : ∃ x, v = nI x ∧ vOk x := by
  obtain ⟨x, h1, rfl, h3⟩ := nI_of' (x := v) (by unfold vV at h; omega)
  exact ⟨x, rfl, by unfold vV at h; unfold vOk; omega⟩
theorem c_allv (v : Int32) (w : mW) : (vV v → f_X10_all 0 v w = f_X10_all_J34 0 v w) ∧ (¬ vV v → f_X10_all 0 v w = some (-102, w)) := by
  unfold f_X10_all f_X10_all_J16 f_X10_all_J17 vV
  simp only [lt_T, eq_T, i0, show (1 : Int32).toInt = 1 from rfl, show (10 : Int32).toInt = 10 from rfl, show (15 : Int32).toInt = 15 from rfl]
  constructor
  · intro h
    by_cases h0 : v.toInt = 0
    · rw [if_pos (show v.toInt < 10 by omega), if_pos h0]
    · by_cases h1 : v.toInt = 1
      · rw [if_pos (show v.toInt < 10 by omega), if_neg h0, if_pos h1]
      · rw [if_neg (show ¬ v.toInt < 10 by omega), if_neg (show ¬ 15 < v.toInt by omega), if_neg h0, if_neg h1, if_neg (by decide)]
  · intro h
    by_cases h2 : v.toInt < 10
    · rw [if_pos h2, if_neg (show ¬ v.toInt = 0 by omega), if_neg (show ¬ v.toInt = 1 by omega), if_pos trivial]
    · rw [if_neg h2, if_pos (show 15 < v.toInt by omega), if_neg (show ¬ v.toInt = 0 by omega), if_neg (show ¬ v.toInt = 1 by omega), if_pos trivial]
theorem r_allv (v : Int32) (w : mW) : (vV v → f_X11_all 38 v w = f_X11_all_J27 38 v w) ∧ (¬ vV v → f_X11_all 38 v w = some (-102, w)) := by
  unfold f_X11_all vV
  rw [s_in v 0 1 0 1 rfl rfl, bS, s_in v 10 15 10 15 rfl rfl, bS]
  simp only [ite01]
  constructor
  · intro h
    by_cases h0 : 0 ≤ v.toInt ∧ v.toInt ≤ 1
    · rw [if_neg (fun z => z h0)]
    · rw [if_pos h0, if_neg (show ¬ ¬ (10 ≤ v.toInt ∧ v.toInt ≤ 15) by omega)]
  · intro h
    rw [if_pos (show ¬ (0 ≤ v.toInt ∧ v.toInt ≤ 1) by omega), if_pos (show ¬ (10 ≤ v.toInt ∧ v.toInt ≤ 15) by omega)]
theorem ob_KR {S P : mT} {t : Nat} (h : ob P = ob S) (hK : KR S t) : KR P t := by
  have h1 : KR (ob S) t := hK
  rw [← h] at h1
  exact h1
theorem ob_NC {S P : mT} {n : Nat} (h : ob P = ob S) (hC : NCells S n 9 rNow) : NCells P n 9 rNow := by
  have h1 : NCells (ob S) n 9 rNow := hC
  rw [← h] at h1
  exact h1
theorem ob_GC {S P : mT} (h : ob P = ob S) (n T r s : Nat) : GC P n T r s = GC S n T r s := by
  have h1 : GC (ob P) n T r s = GC (ob S) n T r s := by rw [h]
  exact h1
theorem ob_sqn {S P : mT} (h : ob P = ob S) (n T V k : Nat) : sqn P n T V k = sqn S n T V k := by
  have h1 : ∀ A : mT, sqn (ob A) n T V k = sqn A n T V k := by
    intro A
    induction k with
    | zero => rfl
    | succ k ih =>
      rw [sqn, sqn, ih]
      rfl
  rw [← h1 P, ← h1 S, h]
theorem ob_nxt {S P : mT} (h : ob P = ob S) (n T s : Nat) : nxt P n T s = nxt S n T s := by
  have h1 : nxt (ob P) n T s = nxt (ob S) n T s := by rw [h]
  exact h1
theorem ob_opn {S P : mT} (h : ob P = ob S) (n : Nat) : bN (opn P) n = bN (opn S) n := by
  have h1 : bN (opn (ob P)) n = bN (opn (ob S)) n := by rw [h]
  exact h1
theorem s_every {S : mT} {n : Nat} (hn : n ≤ 6) (e : S.1 0 7 = nI n) : f_X10_everybody 0 (mk S) = some (nI (2 ^ n - 1)) := by
  unfold f_X10_everybody
  rw [rI_0_7, bS, e, n_full hn]
theorem op_all {N : Nat} {S : mT} (h : Inv N S) (v : Int32) : ∃ r S1 S2, f_X10_all 0 v (mk S) = some (r, mk S1) ∧ f_X11_all 38 v (mk S1) = some (r, mk S2) ∧ Inv N S2 := by
  obtain ⟨n, t, p, L, ⟨a1, a2, a3, a4, a5, a6, a7⟩, ⟨b1, b2, b3, b4, b5, b6, b7, b8⟩, hP, hK, hN, hI⟩ := id h
  obtain ⟨g1, g2, g3, ⟨g4, g5⟩, g6, g7, g8⟩ := hN
  have g5' : S.1 9 7 = nI (bN (cvB S 41) n) := g5
  by_cases hv : vV v
  · by_cases h0 : n = 0
    · refine ⟨-103, S, S, ?_, ?_, h⟩
      · rw [(c_allv v _).1 hv]
        unfold f_X10_all_J34
        rw [kk_0, bS, s_hasPort a1 b1, bS, if_pos h0, if_pos rfl]
      · rw [(r_allv v _).1 hv]
        unfold f_X11_all_J27 f_X11_all_J44
        rw [kk_38, bS, s_lacks a1 b2, bS, if_pos h0, if_neg (by decide)]
    · obtain ⟨x, rfl, hx⟩ := vV_x hv
      have hV : bN (opn S) n < 64 := bN_lt64 a1
      have lg := GC_le S n (36 * t) (36 * t) (bN (opn S) n)
      obtain ⟨P, q1, q2, q3, q4⟩ := s_plan a1 a2 hV b1 b3 g7 hK g2 g6
      obtain ⟨U, u1, u2, u3, u4⟩ := s_allOf (S := P) (n := n) (t := t) a2 a1 (by rw [ob_i q2 rfl]; exact b2) (by rw [ob_i q2 rfl]; exact b4) (ob_KR q2 hK) (ob_NC q2 g2) hx
      rw [ob_opn q2, ob_GC q2] at u3 u4
      have hc : ∀ r, f_X4_tell 31 (nI x) (mk P) = some r → f_X10_all 0 (nI x) (mk S) = some (r, mk P) := by
        intro r hr
        rw [(c_allv _ _).1 hv]
        unfold f_X10_all_J34
        rw [kk_0, bS, s_hasPort a1 b1, bS, if_neg h0, if_neg (by decide), bS, s_every a1 b1, bS]
        refine bnd (rR_0_3 _) ?_
        refine bnd (rI_9_7 _) ?_
        rw [g5', n_wo (full64 a1) (bN_lt64 a1), open_msk a1 g4]
        refine bnd rfl ?_
        refine bnd q1 ?_
        refine bnd (rR_0_5 _) ?_
        refine bnd (kk_31 _) ?_
        refine bnd hr ?_
        rfl
      have hm : ∀ r, f_X11_allOf 38 (nI x) (mk P) = some (r, mk U) → f_X11_all 38 (nI x) (mk P) = some (r, mk U) := by
        intro r hr
        rw [(r_allv _ _).1 hv]
        unfold f_X11_all_J27 f_X11_all_J44
        rw [kk_38, bS, s_lacks (n := n) a1 (by rw [ob_i q2 rfl]; exact b2), bS, if_neg h0, if_pos rfl, bS, hr, bS]
      by_cases hi : GC S n (36 * t) (36 * t) (bN (opn S) n) < 1048576
      · obtain ⟨K, c1, c2, c3, c4⟩ := q4 hi
        refine ⟨_, P, U, hc _ (s_tell hx q3 hi c1 c2), hm _ (u4 hi K c1 (by rw [ob_sqn q2]; exact c3) (P.2.1 36) (fun j hj => by rw [ob_sqn q2, ob_nxt q2]; exact c4 j hj)), h.same (u1.trans q2)⟩
      · exact ⟨-1, P, U, hc _ (s_tellN q3 hi (by omega)), hm _ (u3 hi), h.same (u1.trans q2)⟩
  · exact ⟨-102, S, S, (c_allv v _).2 hv, (r_allv v _).2 hv, h⟩
