-- what sleepers and tossers tell, as values
def sv (S : mT) (n t i : Nat) (v : Int32) : Int32 := if v = 0 then S.2.1 40 i else if v = 1 then S.2.1 41 i else if v = 2 then S.2.1 42 i else if v = 3 then S.2.1 43 i else if v = 4 then (it (plc (tkn S i n) (fun c => tso S (S.1 38 5) t c)) 36 (-1, -1)).1 else -102
theorem r_sv {S : mT} {n t i : Nat} (hn : n ≤ 6) (ht : t ≤ 4) (e : S.1 38 3 = nI n) (e2 : S.1 38 4 = nI t) (hK : KR S t) (hi : i < n) (v : Int32) : f_X11_tellSleeper 38 (nI i) v (mk S) = some (sv S n t i v) := by
  have h6 : i < 6 := by omega
  unfold f_X11_tellSleeper sv
  by_cases v0 : v = 0
  · rw [if_pos v0, if_pos v0, rR_38_10, bS, aL_40 S h6, bS]
  rw [if_neg v0, if_neg v0]
  by_cases v1 : v = 1
  · rw [if_pos v1, if_pos v1, rR_38_11, bS, aL_41 S h6, bS]
  rw [if_neg v1, if_neg v1]
  by_cases v2 : v = 2
  · rw [if_pos v2, if_pos v2, rR_38_12, bS, aL_42 S h6, bS]
  rw [if_neg v2, if_neg v2]
  by_cases v3 : v = 3
  · rw [if_pos v3, if_pos v3, rR_38_13, bS, aL_43 S h6, bS]
  rw [if_neg v3, if_neg v3]
  by_cases v4 : v = 4
  · rw [if_pos v4, if_pos v4, kk_38, bS, s_plcR hn ht hi e e2 hK, bS]
  · rw [if_neg v4, if_neg v4]
theorem ob_sv {S P : mT} (h : ob P = ob S) (n t i : Nat) (v : Int32) : sv P n t i v = sv S n t i v := by
  have h1 : sv (ob P) n t i v = sv (ob S) n t i v := by rw [h]
  exact h1
theorem c_sv {N : Nat} {S : mT} (h : Inv N S) {n t i : Nat} (hn : n ≤ 6) (ht : t ≤ 4) (e : S.1 0 7 = nI n) (e3 : S.1 38 3 = nI n) (e2 : S.1 38 4 = nI t) (hK : KR S t) (hi : i < n) (v : Int32) : ∃ S1, f_X10_sleeper 0 (nI i) v (mk S) = some (sv S n t i v, mk S1) ∧ ob S1 = ob S := by
  obtain ⟨r, S1, r1, r2, f, rfl⟩ := v_sleeper h hn e hi v
  have h2 := r_sv (S := uA S 37 f) hn ht e3 e2 hK hi v
  have ho : ob (uA S 37 f) = ob S := ob_A rfl
  rw [ob_sv ho] at h2
  have h3 : r = sv S n t i v := Option.some.inj (r2.symm.trans h2)
  rw [h3] at r1
  exact ⟨_, r1, ho⟩
def aimV (a : Nat) : Int32 := (f_X11_aimOf_L15 (nI a) [] mFuel (-1) 6 0).getD 0
theorem s_aimV {a : Nat} (ha : a < 32) (w : mW) : f_X11_aimOf_L15 (nI a) w mFuel (-1) 6 0 = some (aimV a) := by
  obtain ⟨r, r1, r2⟩ := s_aim ha w
  rw [r2]
  rw [a15_w] at r2
  unfold aimV
  rw [r2]
  rfl
def tv (S : mT) (n c j : Nat) (v : Int32) : Int32 := if v = 0 then S.2.1 44 j else if v = 1 then S.2.1 45 j else if v = 2 then S.2.1 46 j else if v = 3 then bat (kdO S j) else if v = 4 then (it (bst (fr S n j)) 36 (0, -1)).1 else if v = 5 then (it (bst (fr S n j)) 36 (0, -1)).2 else if v = 6 then nI (bN (trn S c (nI j)) 5) else if v = 7 then aimV (bN (trn S c (nI j)) 5) else if v = 8 then S.2.1 47 j else -102
theorem r_tv {S : mT} {n t c j : Nat} (hn : n ≤ 6) (ht : t ≤ 4) (hc : c ≤ 6) (e : S.1 38 3 = nI n) (e3 : S.1 38 22 = nI c) (hK : KR S t) (hj : j < t) (hC : NCells S n 9 rNow) (hB : ∀ i, i < n → S.2.1 41 i = 0 ∨ S.2.1 41 i = 1) (v : Int32) : f_X11_tellTosser 38 (nI j) v (mk S) = some (tv S n c j v) := by
  have h4 : j < 4 := by omega
  obtain ⟨kd, e0, k1, k2, k3, k4⟩ := hK j hj
  have hr := fun u : Int32 => s_bestR (v := u) hn ht e hK hj hC hB
  unfold f_X11_tellTosser tv
  by_cases v0 : v = 0
  · rw [if_pos v0, if_pos v0, rR_38_14, bS, aL_44 S h4, bS]
  rw [if_neg v0, if_neg v0]
  by_cases v1 : v = 1
  · rw [if_pos v1, if_pos v1, rR_38_15, bS, aL_45 S h4, bS]
  rw [if_neg v1, if_neg v1]
  by_cases v2 : v = 2
  · rw [if_pos v2, if_pos v2, rR_38_16, bS, aL_46 S h4, bS]
  rw [if_neg v2, if_neg v2]
  by_cases v3 : v = 3
  · rw [if_pos v3, if_pos v3, rR_38_14, bS, aL_44 S h4, bS, k2, s_batR k1, bS, kdO_eq k1 k2]
  rw [if_neg v3, if_neg v3]
  by_cases v4 : v = 4
  · rw [if_pos v4, if_pos v4, kk_38, bS, hr, bS, if_pos v4]
  rw [if_neg v4, if_neg v4]
  by_cases v5 : v = 5
  · rw [if_pos v5, if_pos v5, kk_38, bS, hr, bS, if_neg v4]
  rw [if_neg v5, if_neg v5]
  by_cases v6 : v = 6
  · rw [if_pos v6, if_pos v6, kk_38, bS, s_trnR hc e3, bS]
  rw [if_neg v6, if_neg v6]
  by_cases v7 : v = 7
  · unfold f_X11_aimOf
    rw [if_pos v7, if_pos v7, kk_38, bS, bS, s_trnR hc e3, bS, s_aimV (bN_lt _ 5), bS, bS]
  rw [if_neg v7, if_neg v7]
  by_cases v8 : v = 8
  · rw [if_pos v8, if_pos v8, rR_38_17, bS, aL_47 S h4, bS]
  · rw [if_neg v8, if_neg v8]
theorem ob_tv {S P : mT} (h : ob P = ob S) (n c j : Nat) (v : Int32) : tv P n c j v = tv S n c j v := by
  have h1 : tv (ob P) n c j v = tv (ob S) n c j v := by rw [h]
  exact h1
theorem c_tv {N : Nat} {S : mT} (h : Inv N S) {n t c j : Nat} (hn : n ≤ 6) (ht : t ≤ 4) (hc : c ≤ 6) (eb : S.1 0 8 = nI t) (e : S.1 38 3 = nI n) (e3 : S.1 38 22 = nI c) (hK : KR S t) (hj : j < t) (hC : NCells S n 9 rNow) (hB : ∀ i, i < n → S.2.1 41 i = 0 ∨ S.2.1 41 i = 1) (v : Int32) : f_X10_tosser 0 (nI j) v (mk S) = some (tv S n c j v) := by
  obtain ⟨r, r1, r2⟩ := v_tosser h ht eb hj v
  rw [r_tv hn ht hc e e3 hK hj hC hB v] at r2
  rw [r1]
  exact r2.symm
