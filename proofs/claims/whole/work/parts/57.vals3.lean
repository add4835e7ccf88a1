-- what the rest tells, as values
theorem ob_lnd {S P : mT} (h : ob P = ob S) (j : Nat) (x z : Int32) : lnd P j x z = lnd S j x z := by
  have h1 : lnd (ob P) j x z = lnd (ob S) j x z := by rw [h]
  exact h1
theorem ob_cvr {S P : mT} (h : ob P = ob S) (j : Nat) (x z : Int32) : cvr P j x z = cvr S j x z := by
  have h1 : cvr (ob P) j x z = cvr (ob S) j x z := by rw [h]
  exact h1
def ctv (S : mT) (n : Nat) (x : Int32) : Int32 := if x = 0 then S.1 38 3 else if x = 1 then S.1 38 4 else if x = 2 then sm (S.2.1 41) n else if x = 3 then S.1 38 6 else if x = 4 then S.1 38 5 + 1 else if x = 5 then S.1 38 7 else if x = 6 then sm (S.2.1 42) n else if x = 7 then sm (S.2.1 43) n else if x = 8 then S.1 38 8 else if x = 9 then S.1 38 22 else if x = 10 then S.1 38 1 else if x = 11 then S.1 38 9 else -102
theorem ob_ctv {S P : mT} (h : ob P = ob S) (n : Nat) (x : Int32) : ctv P n x = ctv S n x := by
  have h1 : ctv (ob P) n x = ctv (ob S) n x := by rw [h]
  exact h1
theorem r_ctv {S : mT} {n : Nat} (hn : n ≤ 6) (e : S.1 38 3 = nI n) (x : Int32) : f_X11_countOf 38 x (mk S) = some (ctv S n x) := by
  unfold f_X11_countOf ctv
  by_cases x0 : x = 0
  · rw [if_pos x0, if_pos x0, rI_38_3, bS]
  rw [if_neg x0, if_neg x0]
  by_cases x1 : x = 1
  · rw [if_pos x1, if_pos x1, rI_38_4, bS]
  rw [if_neg x1, if_neg x1]
  by_cases x2 : x = 2
  · rw [if_pos x2, if_pos x2, rR_38_11, bS, kk_38, bS, s_sumR (aG_41 S) (by decide) hn e, bS]
  rw [if_neg x2, if_neg x2]
  by_cases x3 : x = 3
  · rw [if_pos x3, if_pos x3, rI_38_6, bS]
  rw [if_neg x3, if_neg x3]
  by_cases x4 : x = 4
  · rw [if_pos x4, if_pos x4, rI_38_5, bS]
  rw [if_neg x4, if_neg x4]
  by_cases x5 : x = 5
  · rw [if_pos x5, if_pos x5, rI_38_7, bS]
  rw [if_neg x5, if_neg x5]
  by_cases x6 : x = 6
  · rw [if_pos x6, if_pos x6, rR_38_12, bS, kk_38, bS, s_sumR (aG_42 S) (by decide) hn e, bS]
  rw [if_neg x6, if_neg x6]
  by_cases x7 : x = 7
  · rw [if_pos x7, if_pos x7, rR_38_13, bS, kk_38, bS, s_sumR (aG_43 S) (by decide) hn e, bS]
  rw [if_neg x7, if_neg x7]
  by_cases x8 : x = 8
  · rw [if_pos x8, if_pos x8, rI_38_8, bS]
  rw [if_neg x8, if_neg x8]
  by_cases x9 : x = 9
  · rw [if_pos x9, if_pos x9, rI_38_22, bS]
  rw [if_neg x9, if_neg x9]
  by_cases xa : x = 10
  · rw [if_pos xa, if_pos xa, rI_38_1, bS]
  rw [if_neg xa, if_neg xa]
  by_cases xb : x = 11
  · rw [if_pos xb, if_pos xb, rI_38_9, bS]
  rw [if_neg xb, if_neg xb]
theorem c_ctv {N : Nat} {S : mT} (h : Inv N S) {n : Nat} (hn : n ≤ 6) (e : S.1 38 3 = nI n) (x : Int32) : f_X10_count 0 x (mk S) = some (ctv S n x) := by
  obtain ⟨r, r1, r2⟩ := op_count h x
  unfold f_X11_count at r2
  rw [kk_38, bS, r_ctv hn e, bS] at r2
  rw [r1]
  exact r2.symm
theorem c_lv {N : Nat} {S : mT} (h : Inv N S) {t j : Nat} (ht : t ≤ 4) (e : S.1 38 4 = nI t) (hj : j < t) : f_X10_lands 0 (nI j) 14 (mk S) = some (lnd S j 14 (S.1 38 5)) := by
  obtain ⟨r, r1, r2⟩ := op_lands h (nI j) 14
  have hx : 0 ≤ (nI j).toInt ∧ (nI j).toInt < t := by rw [nT (by omega)]; omega
  have hy : 0 ≤ (14 : Int32).toInt ∧ (14 : Int32).toInt ≤ 35 := by decide
  unfold f_X11_lands f_X11_lands_J30 f_X11_lands_J28 at r2
  rw [kk_38, bS, s_isToR ht e, bS, s_isCellR, bS] at r2
  simp only [ite01] at r2
  rw [if_neg (show ¬ ¬ (0 ≤ (nI j).toInt ∧ (nI j).toInt < t) from fun z => z hx), if_neg (show ¬ ¬ (0 ≤ (14 : Int32).toInt ∧ (14 : Int32).toInt ≤ 35) from fun z => z hy), rI_38_5, bS, bS, s_lndR (by omega), bS] at r2
  rw [r1]
  exact r2.symm
theorem c_cv {N : Nat} {S : mT} (h : Inv N S) {n t j : Nat} (hn : n ≤ 6) (ht : t ≤ 4) (e3 : S.1 38 3 = nI n) (e : S.1 38 4 = nI t) (hK : KR S t) (hC : NCells S n 9 rNow) (hj : j < t) : f_X10_covers 0 (nI j) 14 (mk S) = some (nI (bN (cvr S j 14 (S.1 38 5)) n)) := by
  obtain ⟨r, r1, r2⟩ := op_covers h (nI j) 14
  have hx : 0 ≤ (nI j).toInt ∧ (nI j).toInt < t := by rw [nT (by omega)]; omega
  have hy : 0 ≤ (14 : Int32).toInt ∧ (14 : Int32).toInt ≤ 35 := by decide
  unfold f_X11_covers f_X11_covers_J30 f_X11_covers_J28 at r2
  rw [kk_38, bS, s_isToR ht e, bS, s_isCellR, bS] at r2
  simp only [ite01] at r2
  rw [if_neg (show ¬ ¬ (0 ≤ (nI j).toInt ∧ (nI j).toInt < t) from fun z => z hx), if_neg (show ¬ ¬ (0 ≤ (14 : Int32).toInt ∧ (14 : Int32).toInt ≤ 35) from fun z => z hy), rI_38_5, bS, bS, s_covR hn ht e3 hK hj hC, bS] at r2
  rw [r1]
  exact r2.symm
-- all, by how many tosses it takes
def KOK (S : mT) (n T V K : Nat) : Prop := GC S n T T V < 1048576 → K ≤ 6 ∧ sqn S n T V K = 0 ∧ ∀ j, j < K → ¬ sqn S n T V j = 0
theorem ob_KOK {S P : mT} (h : ob P = ob S) {n T V K : Nat} (hk : KOK S n T V K) : KOK P n T V K := by
  intro hi
  rw [ob_GC h] at hi
  obtain ⟨k1, k2, k3⟩ := hk hi
  refine ⟨k1, by rw [ob_sqn h]; exact k2, fun j hj => by rw [ob_sqn h]; exact k3 j hj⟩
def alv (S : mT) (n T K x : Nat) : Int32 := if GC S n T T (bN (opn S) n) < 1048576 then til (GC S n T T (bN (opn S) n) / 16) K x (fun j => nI (nxt S n T (sqn S n T (bN (opn S) n) j))) else -1
theorem ob_alv {S P : mT} (h : ob P = ob S) (n T K x : Nat) : alv P n T K x = alv S n T K x := by
  unfold alv
  have h2 : (fun j => nI (nxt P n T (sqn P n T (bN (opn P) n) j))) = (fun j => nI (nxt S n T (sqn S n T (bN (opn S) n) j))) := funext fun j => by rw [ob_opn h, ob_sqn h, ob_nxt h]
  rw [h2, ob_opn h, ob_GC h]
theorem til_congr {c K x : Nat} {r r' : Nat → Int32} (h : ∀ j, j < K → r j = r' j) : til c K x r = til c K x r' := by
  unfold til
  by_cases h0 : x = 0
  · rw [if_pos h0, if_pos h0]
  rw [if_neg h0, if_neg h0]
  by_cases h1 : x = 1
  · rw [if_pos h1, if_pos h1]
  rw [if_neg h1, if_neg h1]
  by_cases h2 : K ≤ x - 10
  · rw [if_pos h2, if_pos h2]
  rw [if_neg h2, if_neg h2]
  exact h _ (by omega)
theorem r_alv {S : mT} {n t K x : Nat} (ht : t ≤ 4) (hn : n ≤ 6) (e : S.1 38 3 = nI n) (e2 : S.1 38 4 = nI t) (hK : KR S t) (hC : NCells S n 9 rNow) (hx : vOk x) (hk : KOK S n (36 * t) (bN (opn S) n) K) : ∃ U, ob U = ob S ∧ U.2.2.2.1 = S.2.2.2.1 ∧ f_X11_allOf 38 (nI x) (mk S) = some (alv S n (36 * t) K x, mk U) := by
  obtain ⟨U, u1, u2, u3, u4⟩ := s_allOf ht hn e e2 hK hC hx
  refine ⟨U, u1, u2, ?_⟩
  unfold alv
  by_cases hi : GC S n (36 * t) (36 * t) (bN (opn S) n) < 1048576
  · rw [if_pos hi]
    obtain ⟨k1, k2, k3⟩ := hk hi
    exact u4 hi K k1 k2 _ (fun j hj => ⟨k3 j hj, rfl⟩)
  · rw [if_neg hi]
    exact u3 hi
theorem c_alv {S : mT} {n t K : Nat} (hn : n ≤ 6) (ht : t ≤ 4) (e : S.1 0 7 = nI n) (e2 : S.1 0 8 = nI t) (e4 : S.1 9 8 = S.1 38 5) (hK : KR S t) (hC : NCells S n 9 rNow) (hT : NTurn S t 9 rNow) (hk : KOK S n (36 * t) (bN (opn S) n) K) : ∃ P, ob P = ob S ∧ f_X10_planFor 0 (nI (bN (opn S) n)) (mk S) = some (mk P) ∧ ∀ x, vOk x → f_X4_tell 31 (nI x) (mk P) = some (alv S n (36 * t) K x) := by
  have hV : bN (opn S) n < 64 := bN_lt64 hn
  have lg := GC_le S n (36 * t) (36 * t) (bN (opn S) n)
  obtain ⟨P, q1, q2, q3, q4⟩ := s_plan hn ht hV e e2 e4 hK hC hT
  refine ⟨P, q2, q1, fun x hx => ?_⟩
  unfold alv
  by_cases hi : GC S n (36 * t) (36 * t) (bN (opn S) n) < 1048576
  · rw [if_pos hi]
    obtain ⟨K0, c1, c2, c3, c4⟩ := q4 hi
    obtain ⟨k1, k2, k3⟩ := hk hi
    have hKK : K0 = K := by
      apply Nat.le_antisymm
      · apply Classical.byContradiction
        intro hz
        exact (c4 K (by omega)).1 k2
      · apply Classical.byContradiction
        intro hz
        exact k3 K0 (by omega) c3
    subst hKK
    rw [s_tell hx q3 hi c1 c2]
    exact congrArg some (til_congr fun j hj => (c4 j hj).2)
  · rw [if_neg hi]
    exact s_tellN q3 hi (by omega)
def niv (S : mT) (n T : Nat) : Int32 := if GC S n T T (2 ^ n - 1) < 1048576 then S.1 38 6 / nI (GC S n T T (2 ^ n - 1) / 16) else -1
theorem ob_niv {S P : mT} (h : ob P = ob S) (n T : Nat) : niv P n T = niv S n T := by
  unfold niv
  rw [ob_GC h, ob_i h rfl]
