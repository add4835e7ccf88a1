-- what sleepers and tossers tell, as values
def sv (S : mT) (n t i : Nat) (v : Int32) : Int32 := if v = 0 then S.2.1 40 i else if v = 1 then S.2.1 41 i else if v = 2 then S.2.1 42 i else if v = 3 then S.2.1 43 i else if v = 4 then (it (plc (tkn S i n) (fun c => tso S (S.1 38 5) t c)) 36 (-1, -1)).1 else -102
theorem r_sv {S : mT} {n t i : Nat} (hn : n ≤ 6) (ht : t ≤ 4) (e : S.1 38 3 = nI n) (e2 : S.1 38 4 = nI t) (hK : KR S t) (hi : i < n) (v : Int32) : f_X11_tellSleeper 38 (nI i) v (mk S) = some (sv S n t i v) := by
  have h6 : i < 6 := by omega
  unfold f_X11_tellSleeper sv
  by_cases v0 : v = 0
  · rw [if_pos v0, if_pos v0, rR_38_10, bS, aL_40 S h6, bS]
  rw [if_neg v0, if_neg v0]
  by_cases v1 : v = 1
  · rw [if_pos v1, if_pos v1, rR_38_11, bS, aL_41 S h6, bS]
  rw [if_neg v1, if_neg v1]
  by_cases v2 : v = 2
  · rw [if_pos v2, if_pos v2, rR_38_12, bS, aL_42 S h6, bS]
  rw [if_neg v2, if_neg v2]
  by_cases v3 : v = 3
  · rw [if_pos v3, if_pos v3, rR_38_13, bS, aL_43 S h6, bS]
  rw [if_neg v3, if_neg v3]
  by_cases v4 : v = 4
  · rw [if_pos v4, if_pos v4, kk_38, bS, s_plcR hn ht hi e e2 hK, bS]
  · rw [if_neg v4, if_neg v4]
theorem ob_sv {S P : mT} (h : ob P = ob S) (n t i : Nat) (v : Int32) : sv P n t i v = sv S n t i v := by
  have h1 : sv (ob P) n t i v = sv (ob S) n t i v := by rw [h]
  exact h1
theorem c_sv {N : Nat} {S : mT} (h : Inv N S) {n t i : Nat} (hn : n ≤ 6) (ht : t ≤ 4) (e : S.1 0 7 = nI n) (e3 : S.1 38 3 = nI n) (e2 : S.1 38 4 = nI t) (hK : KR S t) (hi : i < n) (v : Int32) : ∃ S1, f_X10_sleeper 0 (nI i) v (mk S) = some (sv S n t i v, mk S1) ∧ ob S1 = ob S := by
  obtain ⟨r, S1, r1, r2, f, rfl⟩ := v_sleeper h hn e hi v
  have h2 := r_sv (S := uA S 37 f) hn ht e3 e2 hK hi v
  have ho : ob (uA S 37 f) = ob S := ob_A rfl
  rw [ob_sv ho] at h2
  have h3 : r = sv S n t i v := Option.some.inj (r2.symm.trans h2)
  rw [h3] at r1
  exact ⟨_, r1, ho⟩
