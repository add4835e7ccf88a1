def clr (S : mT) (b n : Nat) : mT := uA S b (cpy n (fun _ => 0) (S.2.1 b))
def bgn (S : mT) : mT := uI (uI (uI (uI (uI (uI (clr (clr (clr (cop (cop (cop S 4 10 6) 6 13 4) 7 14 4) 11 6) 12 6) 15 4) 16 3 0) 9 7 0) 9 8 0) 9 9 60) 9 10 0) 9 11 0
theorem s_bgn (S : mT) : f_X2_begin 9 (some 3) (mk S) = some (mk (bgn S)) := by
  have key : ∀ T1 T2 T3 T4 T5 T6 T7 T8 T9 T10 T11 T12 : mT, T1 = cop S 4 10 6 → T2 = cop T1 6 13 4 → T3 = cop T2 7 14 4 → T4 = clr T3 11 6 → T5 = clr T4 12 6 → T6 = clr T5 15 4 → T7 = uI T6 16 3 0 → T8 = uI T7 9 7 0 → T9 = uI T8 9 8 0 → T10 = uI T9 9 9 60 → T11 = uI T10 9 10 0 → T12 = uI T11 9 11 0 → f_X2_begin 9 (some 3) (mk S) = some (mk T12) := by
    intro T1 T2 T3 T4 T5 T6 T7 T8 T9 T10 T11 T12 h1 h2 h3 h4 h5 h6 h7 h8 h9 h10 h11 h12
    unfold f_X2_begin
    rw [oC_s]
    refine bnd (rR_3_0 _) ?_
    refine bnd (rR_9_0 _) ?_
    refine bnd ((s_copyC 4 10 6 (by decide) (by decide) aG_4 aG_10 aW_10 _).trans (congrArg (fun x => some (mk x)) h1.symm)) ?_
    refine bnd (rR_3_2 _) ?_
    refine bnd (rR_9_3 _) ?_
    refine bnd ((s_copyC 6 13 4 (by decide) (by decide) aG_6 aG_13 aW_13 _).trans (congrArg (fun x => some (mk x)) h2.symm)) ?_
    refine bnd (rR_3_3 _) ?_
    refine bnd (rR_9_4 _) ?_
    refine bnd ((s_copyC 7 14 4 (by decide) (by decide) aG_7 aG_14 aW_14 _).trans (congrArg (fun x => some (mk x)) h3.symm)) ?_
    refine bnd (rR_9_1 _) ?_
    refine bnd ((s_clear 11 6 (by decide) aG_11 aW_11 _).trans (congrArg (fun x => some (mk x)) h4.symm)) ?_
    refine bnd (rR_9_2 _) ?_
    refine bnd ((s_clear 12 6 (by decide) aG_12 aW_12 _).trans (congrArg (fun x => some (mk x)) h5.symm)) ?_
    refine bnd (rR_9_5 _) ?_
    refine bnd ((s_clear 15 4 (by decide) aG_15 aW_15 _).trans (congrArg (fun x => some (mk x)) h6.symm)) ?_
    refine bnd (rR_9_6 _) ?_
    refine bnd ((wI_16_3 _ _).trans (congrArg (fun x => some (mk x)) h7.symm)) ?_
    refine bnd ((wI_9_7 _ _).trans (congrArg (fun x => some (mk x)) h8.symm)) ?_
    refine bnd ((wI_9_8 _ _).trans (congrArg (fun x => some (mk x)) h9.symm)) ?_
    refine bnd ((wI_9_9 _ _).trans (congrArg (fun x => some (mk x)) h10.symm)) ?_
    refine bnd ((wI_9_10 _ _).trans (congrArg (fun x => some (mk x)) h11.symm)) ?_
    refine bnd ((wI_9_11 _ _).trans (congrArg (fun x => some (mk x)) h12.symm)) ?_
    rfl
  exact key _ _ _ _ _ _ _ _ _ _ _ _ rfl rfl rfl rfl rfl rfl rfl rfl rfl rfl rfl rfl
-- the tossers are made
theorem rS_8 {S : mT} {k e kd : Nat} (hk : k < 4) (hk2 : kd ≤ 4) (h : S.2.2.2.2[e]? = some (.inl (cls kd, []))) : rS (mk S) (some 8) (nI k) (some (e + 41)) = some (mk (uQ S (va_up S.2.2.1 k (some (e + 41))))) := by
  have e1 := ix hk (show 4 < 2 ^ 31 by decide)
  unfold rS
  rw [show rG (mk S) (some 8) = some (4, S.2.2.1) from rfl]
  simp only [s_tO hk2 h, e1.1]
  rw [if_pos ⟨hk, e1.2⟩]
  rfl
theorem s_new (S : mT) {kd : Nat} (hk : kd ≤ 4) : f_X10_tosserOf (nI kd) (mk S) = some (some (S.2.2.2.2.length + 41), mk (uX S (.inl (cls kd, [])))) := by
  have hl : (mk S).length = S.2.2.2.2.length + 41 := by rw [mk_len]; omega
  unfold f_X10_tosserOf
  match kd, hk with
  | 0, _ => rw [if_neg (by decide), if_neg (by decide), if_neg (by decide), if_neg (by decide), bS, uX_mk, hl]; rfl
  | 1, _ => rw [if_pos (by decide), bS, uX_mk, hl]; rfl
  | 2, _ => rw [if_neg (by decide), if_pos (by decide), bS, uX_mk, hl]; rfl
  | 3, _ => rw [if_neg (by decide), if_neg (by decide), if_pos (by decide), bS, uX_mk, hl]; rfl
  | 4, _ => rw [if_neg (by decide), if_neg (by decide), if_neg (by decide), if_pos (by decide), bS, uX_mk, hl]; rfl
def stl (T : mT) (kd : Nat → Nat) : Nat → mT
  | 0 => T
  | k + 1 => uQ (uX (stl T kd k) (.inl (cls (kd k), []))) (va_up (stl T kd k).2.2.1 k (some ((stl T kd k).2.2.2.2.length + 41)))
theorem stl_1 (T : mT) (kd : Nat → Nat) : ∀ k, (stl T kd k).1 = T.1
  | 0 => rfl
  | k + 1 => stl_1 T kd k
theorem stl_2 (T : mT) (kd : Nat → Nat) : ∀ k, (stl T kd k).2.1 = T.2.1
  | 0 => rfl
  | k + 1 => stl_2 T kd k
theorem stl_3 (T : mT) (kd : Nat → Nat) : ∀ k, (stl T kd k).2.2.2.1 = T.2.2.2.1
  | 0 => rfl
  | k + 1 => stl_3 T kd k
theorem stl_len (T : mT) (kd : Nat → Nat) : ∀ k, (stl T kd k).2.2.2.2.length = T.2.2.2.2.length + k
  | 0 => rfl
  | k + 1 => by
    show ((stl T kd k).2.2.2.2 ++ [_]).length = _
    rw [List.length_append, stl_len T kd k]
    rfl
theorem stl_sz (T : mT) (kd : Nat → Nat) : ∀ k, mSz (stl T kd k).2.2.2.2 = mSz T.2.2.2.2
  | 0 => rfl
  | k + 1 => by
    show mSz ((stl T kd k).2.2.2.2 ++ [_]) = _
    rw [mSz_app, stl_sz T kd k]
    rfl
theorem stl_at (T : mT) (kd : Nat → Nat) : ∀ k j, j < k → (stl T kd k).2.2.1 j = some (T.2.2.2.2.length + j + 41) ∧ (stl T kd k).2.2.2.2[T.2.2.2.2.length + j]? = some (.inl (cls (kd j), []))
  | 0, j, h => absurd h (by omega)
  | k + 1, j, h => by
    have hl := stl_len T kd k
    show va_up (stl T kd k).2.2.1 k (some ((stl T kd k).2.2.2.2.length + 41)) j = _ ∧ ((stl T kd k).2.2.2.2 ++ [.inl (cls (kd k), [])])[T.2.2.2.2.length + j]? = _
    by_cases hj : j = k
    · subst hj
      refine ⟨?_, ?_⟩
      · unfold va_up
        rw [if_pos rfl, hl]
      · rw [← hl, List.getElem?_concat_length]
    · obtain ⟨h1, h2⟩ := stl_at T kd k j (by omega)
      refine ⟨?_, ?_⟩
      · unfold va_up
        rw [if_neg hj, h1]
      · rw [List.getElem?_append_left (by omega), h2]
theorem s_stl {T : mT} {t : Nat} (ht : t ≤ 4) (e : T.1 0 8 = nI t) {kd : Nat → Nat} (hk : ∀ k, k < t → kd k ≤ 4 ∧ T.2.1 5 k = nI (kd k)) : f_X10_settle_L40 0 mFuel 0 (mk T) = some (mk (stl T kd t)) := by
  refine loopK (fun m k => f_X10_settle_L40 0 m (nI k) (mk (stl T kd k))) t (mk (stl T kd t)) ?_ (fun m => ?he) mFuel (by unfold mFuel; omega)
  case he =>
    simp only [f_X10_settle_L40]
    rw [rI_0_8, bS, stl_1, e, if_pos (show nI t ≤ nI t by rw [n_le (by omega) (by omega)]; omega)]
  · intro m k hkt
    obtain ⟨h1, h2⟩ := hk k hkt
    simp only [f_X10_settle_L40]
    refine bnd (rI_0_8 _) ?_
    rw [stl_1, e, if_neg (show ¬ nI t ≤ nI k by rw [n_le (by omega) (by omega)]; omega)]
    refine bnd (rR_0_2 _) ?_
    refine bnd (rN_8 _) ?_
    rw [if_neg (show ¬ (4 : Int32) ≤ nI k by rw [show (4 : Int32) = nI 4 from rfl, n_le (by omega) (by omega)]; omega)]
    refine bnd (rR_0_2 _) ?_
    refine bnd (rR_0_1 _) ?_
    refine bnd (rR_3_1 _) ?_
    refine bnd (s_at (aG_5 _) (by decide) (show k < 4 by omega)) ?_
    rw [stl_2, h2]
    refine bnd (s_new _ h1) ?_
    refine bnd (rS_8 (show k < 4 by omega) h1 (S := uX (stl T kd k) (.inl (cls (kd k), []))) (e := (stl T kd k).2.2.2.2.length) List.getElem?_concat_length) ?_
    rw [nI_1]
    rfl
