-- the page, letter by letter
def kn (a : Nat) : Int32 := (f_X11_kindBy (nI a) []).getD 0
theorem kindBy_w (x : Int32) (w : mW) : f_X11_kindBy x w = f_X11_kindBy x [] := by simp only [f_X11_kindBy]
theorem k_kn : ∀ a : Fin 127, f_X11_kindBy (nI a.val) [] = some (kn a.val) ∧ f_J0_indexOf_0f7a4 (((nI a.val).toUInt32 % 65536).toInt32) [] = some (kn a.val) ∧ (kn a.val = -1 ∨ kn a.val = nI 0 ∨ kn a.val = nI 1 ∨ kn a.val = nI 2 ∨ kn a.val = nI 3 ∨ kn a.val = nI 4) := by decide +kernel
theorem ioc_w (a b : Int32) (w : mW) : ∀ (n : Nat) (x : Int32), f_J1_indexOfChar_4cfef_L7 a b w n x = f_J1_indexOfChar_4cfef_L7 a b [] n x
  | 0, _ => rfl
  | n + 1, x => by simp only [f_J1_indexOfChar_4cfef_L7, ioc_w a b w n]
theorem io_w (x : Int32) (w : mW) : f_J0_indexOf_0f7a4 x w = f_J0_indexOf_0f7a4 x [] := by
  simp only [f_J0_indexOf_0f7a4, f_J0_indexOf_7cf53, f_J0_indexOf_7cf53_J36, f_J1_indexOf_4cfef, f_J1_indexOfChar_4cfef, f_J1_canEncode_9a6ad, f_J1_canEncode_9a6ad_J16, f_J1_canEncode_9a6ad_J15, f_J0_isLatin1_aae02, f_J0_isLatin1_aae02_J18, f_J0_isLatin1_aae02_J17, f_J0_coder_7d493, f_J0_coder_7d493_J14, f_J0_length_8abf5, ioc_w _ _ w]
theorem s_knR {a : Nat} (ha : a < 127) (w : mW) : f_X11_kindBy (nI a) w = some (kn a) := by rw [kindBy_w]; exact (k_kn ⟨a, ha⟩).1
theorem s_knC {a : Nat} (ha : a < 127) (w : mW) : f_J0_indexOf_0f7a4 (((nI a).toUInt32 % 65536).toInt32) w = some (kn a) := by rw [io_w]; exact (k_kn ⟨a, ha⟩).2.1
theorem kn_ok {a : Nat} (ha : a < 127) : kn a = -1 ∨ ∃ kd : Nat, kd ≤ 4 ∧ kn a = nI kd := by
  rcases (k_kn ⟨a, ha⟩).2.2 with h | h | h | h | h | h
  · exact Or.inl h
  · exact Or.inr ⟨0, by omega, h⟩
  · exact Or.inr ⟨1, by omega, h⟩
  · exact Or.inr ⟨2, by omega, h⟩
  · exact Or.inr ⟨3, by omega, h⟩
  · exact Or.inr ⟨4, by omega, h⟩
theorem n_m1 {a : Nat} (h : a < 2 ^ 31) : ¬ nI a = -1 := by rw [eq_T, nT h]; show ¬ (a : Int) = -1; omega
theorem k_s48 : ∀ a : Fin 127, (nI a.val - 48).toInt = (a.val : Int) - 48 := by decide +kernel
theorem s48 {a : Nat} (h : a < 127) : (nI a - 48).toInt = (a : Int) - 48 := k_s48 ⟨a, h⟩
/-- the cell that the letters of sleeper i name -/
def cz (c : Nat → Nat) (i : Nat) : Int32 := (((6 : Int32) * (nI (c (3 * i)) - (48 : Int32))) + nI (c (3 * i + 1))) - (48 : Int32)
def goodA (c : Nat → Nat) (k : Nat) : Bool := if k % 3 = 0 then decide (48 ≤ c k ∧ c k ≤ 53) else if k % 3 = 1 then decide (48 ≤ c k ∧ c k ≤ 53) && !anyB (fun i => decide (cz c i = cz c (k / 3))) (k / 3) else decide (c k = 59 ∨ (c k = 44 ∧ k < 17))
def goodB (c : Nat → Nat) (e k : Nat) : Bool := if (k - e - 1) % 4 = 0 then decide (¬ kn (c k) = -1) else if (k - e - 1) % 4 = 3 then decide (c k = 44 ∧ k - e - 1 < 15) else decide (48 ≤ c k ∧ c k ≤ 52)
/-- the reading: where it stops, and where the sleepers end -/
def rd (c : Nat → Nat) : Nat → Nat → Nat → Nat × Nat
  | 0, e, k => (k, e)
  | d + 1, e, k => if e = 0 then (if goodA c k = true then rd c d (if k % 3 = 2 ∧ c k = 59 then k else 0) (k + 1) else (k, 0)) else if goodB c e k = true then rd c d e (k + 1) else (k, e)
theorem n_rem3 {a b : Nat} (ha : a < 1000) (hb : b < 1000) : nI a - nI a / nI b * nI b = nI (a % b) := n_rem (by omega) (by omega)
-- the model reads
theorem s_cellAt {S : mT} {c : Nat → Nat} {L i : Nat} (hc : ∀ i, i < L → S.2.1 39 i = nI (c i) ∧ c i < 127) (hL : L ≤ 36) (hi : 3 * i + 1 < L) : f_X11_cellAt 38 (nI (3 * i)) (mk S) = some (cz c i) := by
  unfold f_X11_cellAt
  rw [rR_38_0, bS, aL_39 S (by omega), bS, bS, nI_1, aL_39 S (by omega), bS, (hc _ (by omega)).1, (hc _ hi).1]
  rfl
theorem s_isNew {S : mT} {c : Nat → Nat} {L a : Nat} (hc : ∀ i, i < L → S.2.1 39 i = nI (c i) ∧ c i < 127) (hL : L ≤ 36) (ha : 3 * a + 1 < L) : f_X11_isNew 38 (nI (3 * a + 1)) (mk S) = some (if anyB (fun i => decide (cz c i = cz c a)) a = true then 0 else 1) := by
  have hm : nI (3 * a + 1) - 1 = nI (3 * a) := by rw [show (1 : Int32) = nI 1 from rfl, n_sub (by omega)]; rfl
  have hl := loopG (fun m b k => f_X11_isNew_L4 38 (nI (3 * a + 1)) (mk S) m b (nI (3 * k))) a (fun k b => if b = 0 then (0 : Int32) else if decide (cz c k = cz c a) = true then 0 else 1) id 1 ?_ ?_ mFuel (by unfold mFuel; omega)
  · rw [it_any (fun k => decide (cz c k = cz c a)), id_eq] at hl
    unfold f_X11_isNew
    rw [show f_X11_isNew_L4 38 (nI (3 * a + 1)) (mk S) mFuel 1 0 = _ from hl, bS]
    by_cases h : anyB (fun i => decide (cz c i = cz c a)) a = true
    · rw [if_pos h]; rfl
    · rw [if_neg h]; rfl
  · intro m k b hk
    simp only [f_X11_isNew_L4, f_X11_isNew_J34, f_X11_isNew_J35]
    rw [hm, if_neg (show ¬ nI (3 * a) ≤ nI (3 * k) by rw [n_le (by omega) (by omega)]; omega), show nI (3 * k) + 3 = nI (3 * (k + 1)) from n_add _ _]
    by_cases h0 : b = 0
    · rw [if_pos h0, if_pos h0]
    · rw [if_neg h0, if_neg h0, kk_38, bS, s_cellAt hc hL (by omega), bS, bS, s_cellAt hc hL ha, bS]
      by_cases h : cz c k = cz c a
      · rw [if_pos h, if_pos (show decide (cz c k = cz c a) = true by simp [h])]
      · rw [if_neg h, if_neg (show ¬ decide (cz c k = cz c a) = true by simp [h])]
  · intro m b
    simp only [f_X11_isNew_L4]
    rw [hm, if_pos (show nI (3 * a) ≤ nI (3 * a) by rw [n_le (by omega) (by omega)]; omega)]
    rfl
theorem r_slep {S : mT} {c : Nat → Nat} {L k : Nat} (hc : ∀ i, i < L → S.2.1 39 i = nI (c i) ∧ c i < 127) (hL : L ≤ 36) (hk : k < L) (e0 : S.1 38 2 = nI 0) : f_X11_isSleeperLetter 38 (nI k) (mk S) = some (if goodA c k = true then 1 else 0, mk (uI S 38 2 (nI (if goodA c k = true ∧ k % 3 = 2 ∧ c k = 59 then k else 0)))) := by
  obtain ⟨h1, h2⟩ := hc k hk
  have hid : uI S 38 2 (nI 0) = S := by
    refine mT_ext (funext fun o => funext fun q => ?_) (fun _ => rfl) rfl
    show (if o = 38 ∧ q = 2 then nI 0 else S.1 o q) = S.1 o q
    by_cases h : o = 38 ∧ q = 2
    · rw [if_pos h, h.1, h.2, e0]
    · rw [if_neg h]
  simp only [f_X11_isSleeperLetter, f_X11_isSleeperLetter_J106, f_X11_isSleeperLetter_J105, f_X11_isSleeperLetter_J75, f_X11_isSleeperLetter_J74, true_or, or_true, or_false, false_or, if_true, if_false, and_true, true_and, and_false, false_and, not_true_eq_false, not_false_eq_true]
  rw [rR_38_0, bS, aL_39 S (by omega), bS, h1, show (3 : Int32) = nI 3 from rfl, n_rem3 (by omega) (by decide), s_in (nI (c k)) 48 53 48 53 rfl rfl, bS, nT (by omega)]
  unfold goodA
  have h3 : k % 3 = 0 ∨ k % 3 = 1 ∨ k % 3 = 2 := by omega
  rcases h3 with h3 | h3 | h3
  · rw [h3, if_pos (show nI 0 = (0 : Int32) from rfl), if_pos rfl, if_neg (show ¬ (_ ∧ (0 : Nat) = 2 ∧ _) from fun z => absurd z.2.1 (by decide)), hid]
    by_cases h : (48 : Int) ≤ (c k : Int) ∧ (c k : Int) ≤ 53
    · rw [if_pos h, if_pos (Or.inr rfl), if_pos (decide_eq_true (show 48 ≤ c k ∧ c k ≤ 53 by omega))]
    · rw [if_neg h, if_pos (Or.inl rfl), if_neg (show ¬ decide (48 ≤ c k ∧ c k ≤ 53) = true by rw [decide_eq_true_eq]; omega)]
  · rw [h3, if_neg (show ¬ nI 1 = (0 : Int32) by decide), if_pos (show nI 1 = (1 : Int32) from rfl), if_neg (show ¬ (1 : Nat) = 0 by decide), if_pos rfl, if_neg (show ¬ (_ ∧ (1 : Nat) = 2 ∧ _) from fun z => absurd z.2.1 (by decide)), hid]
    by_cases h : (48 : Int) ≤ (c k : Int) ∧ (c k : Int) ≤ 53
    · rw [if_pos h, bS, if_neg (show ¬ (1 : Int32) = 0 by decide), kk_38, bS, show nI k = nI (3 * (k / 3) + 1) from congrArg nI (by omega), s_isNew hc hL (by omega), bS, decide_eq_true (show 48 ≤ c k ∧ c k ≤ 53 by omega), Bool.true_and]
      cases anyB (fun i => decide (cz c i = cz c (k / 3))) (k / 3)
      · rfl
      · rfl
    · rw [if_neg h, bS, if_pos rfl, decide_eq_false (show ¬ (48 ≤ c k ∧ c k ≤ 53) by omega), Bool.false_and]
      rfl
  · rw [h3, if_neg (show ¬ nI 2 = (0 : Int32) by decide), if_neg (show ¬ nI 2 = (1 : Int32) by decide), if_neg (show ¬ (2 : Nat) = 0 by decide), if_neg (show ¬ (2 : Nat) = 1 by decide)]
    by_cases h : c k = 59
    · rw [h, if_pos (show nI 59 = (59 : Int32) from rfl), wI_38_2, bS, if_pos (decide_eq_true (show (59 : Nat) = 59 ∨ ((59 : Nat) = 44 ∧ k < 17) from Or.inl rfl)), if_pos ⟨decide_eq_true (Or.inl rfl), rfl, rfl⟩]
    · rw [if_neg (show ¬ nI (c k) = (59 : Int32) by rw [show (59 : Int32) = nI 59 from rfl, n_eq (by omega) (by omega)]; exact h), if_neg (show ¬ (_ ∧ (2 : Nat) = 2 ∧ c k = 59) from fun z => h z.2.2), hid]
      by_cases h4 : c k = 44
      · rw [h4, if_pos (show nI 44 = (44 : Int32) from rfl)]
        by_cases h5 : k < 17
        · rw [if_neg (show ¬ (17 : Int32) ≤ nI k by rw [show (17 : Int32) = nI 17 from rfl, n_le (by omega) (by omega)]; omega), if_pos (decide_eq_true (show (44 : Nat) = 59 ∨ ((44 : Nat) = 44 ∧ k < 17) from Or.inr ⟨rfl, h5⟩))]
        · rw [if_pos (show (17 : Int32) ≤ nI k by rw [show (17 : Int32) = nI 17 from rfl, n_le (by omega) (by omega)]; omega), if_neg (show ¬ decide ((44 : Nat) = 59 ∨ ((44 : Nat) = 44 ∧ k < 17)) = true by rw [decide_eq_true_eq]; omega)]
      · rw [if_neg (show ¬ nI (c k) = (44 : Int32) by rw [show (44 : Int32) = nI 44 from rfl, n_eq (by omega) (by omega)]; exact h4), if_neg (show ¬ decide (c k = 59 ∨ (c k = 44 ∧ k < 17)) = true by rw [decide_eq_true_eq]; omega)]
theorem r_toss' {S : mT} {c : Nat → Nat} {L k e : Nat} (hc : ∀ i, i < L → S.2.1 39 i = nI (c i) ∧ c i < 127) (hL : L ≤ 36) (hk : k < L) (he : e < k) (e0 : S.1 38 2 = nI e) : f_X11_isTosserLetter 38 (nI k) (mk S) = some (if goodB c e k = true then 1 else 0) := by
  obtain ⟨h1, h2⟩ := hc k hk
  simp only [f_X11_isTosserLetter, f_X11_isTosserLetter_J75, f_X11_isTosserLetter_J74, f_X11_isTosserLetter_J57, true_or, or_true, or_false, false_or, if_true, if_false, and_true, true_and, and_false, false_and, not_true_eq_false, not_false_eq_true]
  rw [rR_38_0, bS, aL_39 S (by omega), bS, h1, rI_38_2, bS, e0, n_sub (show e ≤ k by omega), show nI (k - e) - (1 : Int32) = nI (k - e - 1) from n_sub (show 1 ≤ k - e by omega), show (4 : Int32) = nI 4 from rfl, n_rem3 (by omega) (by decide), s_knR h2, bS, s_in (nI (c k)) 48 52 48 52 rfl rfl, bS, nT (by omega)]
  unfold goodB
  have h3 : (k - e - 1) % 4 = 0 ∨ (k - e - 1) % 4 = 3 ∨ ((k - e - 1) % 4 ≠ 0 ∧ (k - e - 1) % 4 ≠ 3) := by omega
  rcases h3 with h3 | h3 | h3
  · rw [h3, if_pos (show nI 0 = (0 : Int32) from rfl), if_pos rfl]
    by_cases h : kn (c k) = -1
    · rw [if_pos h, if_neg (show ¬ decide (¬ kn (c k) = -1) = true by simp [h])]
    · rw [if_neg h, if_pos (decide_eq_true h)]
  · rw [h3, if_neg (show ¬ nI 3 = (0 : Int32) by decide), if_pos (show nI 3 = (3 : Int32) from rfl), if_neg (show ¬ (3 : Nat) = 0 by decide), if_pos rfl]
    by_cases h4 : c k = 44
    · rw [h4, if_pos (show nI 44 = (44 : Int32) from rfl)]
      by_cases h5 : k - e - 1 < 15
      · rw [if_neg (show ¬ (15 : Int32) ≤ nI (k - e - 1) by rw [show (15 : Int32) = nI 15 from rfl, n_le (by omega) (by omega)]; omega), if_pos (decide_eq_true ⟨rfl, h5⟩)]
      · rw [if_pos (show (15 : Int32) ≤ nI (k - e - 1) by rw [show (15 : Int32) = nI 15 from rfl, n_le (by omega) (by omega)]; omega), if_neg (show ¬ decide ((44 : Nat) = 44 ∧ k - e - 1 < 15) = true by rw [decide_eq_true_eq]; omega)]
    · rw [if_neg (show ¬ nI (c k) = (44 : Int32) by rw [show (44 : Int32) = nI 44 from rfl, n_eq (by omega) (by omega)]; exact h4), if_neg (show ¬ decide (c k = 44 ∧ k - e - 1 < 15) = true by rw [decide_eq_true_eq]; omega)]
  · rw [if_neg (show ¬ nI ((k - e - 1) % 4) = (0 : Int32) by rw [show (0 : Int32) = nI 0 from rfl, n_eq (by omega) (by omega)]; omega), if_neg (show ¬ nI ((k - e - 1) % 4) = (3 : Int32) by rw [show (3 : Int32) = nI 3 from rfl, n_eq (by omega) (by omega)]; omega), if_neg h3.1, if_neg h3.2]
    by_cases h : (48 : Int) ≤ (c k : Int) ∧ (c k : Int) ≤ 52
    · rw [if_pos h, if_pos (Or.inr rfl), if_pos (decide_eq_true (show 48 ≤ c k ∧ c k ≤ 52 by omega))]
    · rw [if_neg h, if_pos (Or.inl rfl), if_neg (show ¬ decide (48 ≤ c k ∧ c k ≤ 52) = true by rw [decide_eq_true_eq]; omega)]
theorem r_read {S : mT} {c : Nat → Nat} {L : Nat} (hc : ∀ i, i < L → S.2.1 39 i = nI (c i) ∧ c i < 127) (hL : L ≤ 36) (eL : S.1 38 1 = nI L) : ∀ (d k e m : Nat), k + d = L → (e = 0 ∨ e < k) → d < m → f_X11_faultOf_L7 38 m (nI k) (mk (uI S 38 2 (nI e))) = some (nI (rd c d e k).1, mk (uI S 38 2 (nI (rd c d e k).2)))
  | 0, k, e, m, hk, he, hm => by
    obtain ⟨q, rfl⟩ : ∃ q, m = q + 1 := ⟨m - 1, by omega⟩
    simp only [f_X11_faultOf_L7]
    rw [rI_38_1, bS, show (uI S 38 2 (nI e)).1 38 1 = nI L from eL, if_pos (show nI L ≤ nI k by rw [n_le (by omega) (by omega)]; omega)]
    rfl
  | d + 1, k, e, m, hk, he, hm => by
    obtain ⟨q, rfl⟩ : ∃ q, m = q + 1 := ⟨m - 1, by omega⟩
    simp only [f_X11_faultOf_L7, f_X11_faultOf_J41]
    rw [rI_38_1, bS, show (uI S 38 2 (nI e)).1 38 1 = nI L from eL, if_neg (show ¬ nI L ≤ nI k by rw [n_le (by omega) (by omega)]; omega), rI_38_2, bS, uI_s, rd]
    by_cases h0 : e = 0
    · subst h0
      rw [if_pos (show nI 0 = (0 : Int32) from rfl), if_pos rfl, kk_38, bS, r_slep (S := uI S 38 2 (nI 0)) hc hL (by omega) uI_s, bS, uI_u, nI_1]
      by_cases hg : goodA c k = true
      · rw [if_pos hg, if_pos hg, if_neg (show ¬ (1 : Int32) = 0 by decide)]
        simp only [hg, true_and]
        refine r_read hc hL eL d (k + 1) _ q (by omega) ?_ (by omega)
        by_cases h5 : k % 3 = 2 ∧ c k = 59
        · rw [if_pos h5]; omega
        · rw [if_neg h5]; omega
      · rw [if_neg hg, if_neg hg, if_pos rfl, if_neg (fun z => hg z.1)]
    · rw [if_neg (show ¬ nI e = (0 : Int32) by rw [show (0 : Int32) = nI 0 from rfl, n_eq (by omega) (by omega)]; exact h0), if_neg h0, kk_38, bS, r_toss' (S := uI S 38 2 (nI e)) hc hL (by omega) (show e < k by omega) uI_s, bS, nI_1]
      by_cases hg : goodB c e k = true
      · rw [if_pos hg, if_pos hg, if_neg (show ¬ (1 : Int32) = 0 by decide)]
        exact r_read hc hL eL d (k + 1) e q (by omega) (by omega) (by omega)
      · rw [if_neg hg, if_neg hg, if_pos rfl]
