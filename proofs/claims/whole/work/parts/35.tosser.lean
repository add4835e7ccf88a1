theorem it_shift {α : Type} (g : Nat → α → α) (a : α) : ∀ n, it g (n + 1) a = it (fun k => g (k + 1)) n (g 0 a)
  | 0 => rfl
  | n + 1 => by
    rw [it, it_shift g a n]
    rfl
/-- how many more tosser j would cover, aiming at a -/
def fr (S : mT) (n j a : Nat) : Nat := pop (wo (bN (cvr S j (nI a) (S.1 38 5)) n) (bN (cvB S 41) n))
theorem fr_le (S : mT) (n j a : Nat) : fr S n j a ≤ 6 := pop_le _
theorem s_fresh {S : mT} {n t j : Nat} (hn : n ≤ 6) (ht : t ≤ 4) (e : S.1 0 7 = nI n) (e2 : S.1 0 8 = nI t) (hK : KR S t) (hj : j < t) (hC : NCells S n 9 rNow) (hT : NTurn S t 9 rNow) (e3 : S.1 9 7 = nI (bN (cvB S 41) n)) (e4 : S.1 9 8 = S.1 38 5) (a : Nat) : f_X10_freshOf 0 (nI j) (nI a) (mk S) = some (nI (fr S n j a)) := by
  unfold f_X10_freshOf
  refine bnd (rR_0_3 _) ?_
  refine bnd (rI_9_8 _) ?_
  refine bnd (kk_0 _) ?_
  refine bnd (s_crw hn ht e e2 hK hj hC hT _ _) ?_
  refine bnd (rR_0_3 _) ?_
  refine bnd (rI_9_7 _) ?_
  rw [e3, n_wo (bN_lt64 hn) (bN_lt64 hn), s_bc (Nat.lt_of_le_of_lt (wo_le _ _) (bN_lt64 hn)), bS, e4]
  rfl
def bst (f : Nat → Nat) : Nat → Int32 × Int32 → Int32 × Int32 := fun k p => if nI (f k) ≤ p.2 then p else (nI k, nI (f k))
theorem s_bestC {S : mT} {n t j : Nat} (hn : n ≤ 6) (ht : t ≤ 4) (e : S.1 0 7 = nI n) (e2 : S.1 0 8 = nI t) (hK : KR S t) (hj : j < t) (hC : NCells S n 9 rNow) (hT : NTurn S t 9 rNow) (e3 : S.1 9 7 = nI (bN (cvB S 41) n)) (e4 : S.1 9 8 = S.1 38 5) : f_X10_bestAimOf 0 (nI j) (mk S) = some (it (bst (fr S n j)) 36 (0, -1)).1 := by
  have hl := loopG (fun m (p : Int32 × Int32) k => f_X10_bestAimOf_L12 0 (nI j) (mk S) m p.1 p.2 (nI (k + 1))) 35 (fun k => bst (fr S n j) (k + 1)) (fun p => p.1) (nI 0, nI (fr S n j 0)) ?_ ?_ mFuel (by unfold mFuel; omega)
  · unfold f_X10_bestAimOf
    rw [kk_0, bS, show (0 : Int32) = nI 0 from rfl, s_fresh hn ht e e2 hK hj hC hT e3 e4, bS]
    rw [show f_X10_bestAimOf_L12 0 (nI j) (mk S) mFuel (nI 0) (nI (fr S n j 0)) 1 = _ from hl, bS, show it (bst (fr S n j)) 36 (nI 0, -1) = _ from it_shift (bst (fr S n j)) (nI 0, -1) 35]
    have : bst (fr S n j) 0 (nI 0, -1) = (nI 0, nI (fr S n j 0)) := by
      unfold bst
      rw [if_neg]
      rw [le_T, nT (by have := fr_le S n j 0; omega)]
      show ¬ ((fr S n j 0 : Nat) : Int) ≤ -1
      omega
    rw [this]
  · intro m k p hk
    simp only [f_X10_bestAimOf_L12, f_X10_bestAimOf_J40]
    rw [if_neg (show ¬ (36 : Int32) ≤ nI (k + 1) by rw [show (36 : Int32) = nI 36 from rfl, n_le (by omega) (by omega)]; omega), kk_0, bS, s_fresh hn ht e e2 hK hj hC hT e3 e4, bS, nI_1]
    unfold bst
    by_cases h : nI (fr S n j (k + 1)) ≤ p.2
    · rw [if_pos h, if_pos h]
    · rw [if_neg h, if_neg h]
  · intro m p
    simp only [f_X10_bestAimOf_L12]
    rw [if_pos (by decide)]
theorem s_bestR {S : mT} {n t j : Nat} (hn : n ≤ 6) (ht : t ≤ 4) (e : S.1 38 3 = nI n) (hK : KR S t) (hj : j < t) (hC : NCells S n 9 rNow) (hB : ∀ i, i < n → S.2.1 41 i = 0 ∨ S.2.1 41 i = 1) (v : Int32) : f_X11_mostOf 38 (nI j) v (mk S) = some (if v = 4 then (it (bst (fr S n j)) 36 (0, -1)).1 else (it (bst (fr S n j)) 36 (0, -1)).2) := by
  have hl := loopG (fun m (p : Int32 × Int32) k => f_X11_mostOf_L8 38 (nI j) v (mk S) m p.1 p.2 (nI k)) 36 (bst (fr S n j)) id (0, -1) ?_ ?_ mFuel (by unfold mFuel; omega)
  · unfold f_X11_mostOf f_X11_mostOf_J83
    rw [id_eq] at hl
    rw [show f_X11_mostOf_L8 38 (nI j) v (mk S) mFuel 0 (-1) 0 = _ from hl, bS]
    by_cases h : v = 4
    · rw [if_pos h, if_pos h]
    · rw [if_neg h, if_neg h]
  · intro m k p hk
    simp only [f_X11_mostOf_L8, f_X11_mostOf_J49, f_X11_mostOf_J64]
    rw [if_neg (show ¬ (36 : Int32) ≤ nI k by rw [show (36 : Int32) = nI 36 from rfl, n_le (by omega) (by omega)]; omega), rI_38_5, bS, kk_38, bS, s_covR hn ht e hK hj hC, bS, bS, s_open hn e, bS, n_and, wo_open hn rfl hB, s_ones (Nat.lt_of_le_of_lt (wo_le _ _) (bN_lt64 hn)), bS, nI_1]
    rw [show pop (wo (bN (cvr S j (nI k) (S.1 38 5)) n) (bN (cvB S 41) n)) = fr S n j k from rfl]
    unfold bst
    by_cases h : nI (fr S n j k) ≤ p.2
    · rw [if_pos h, if_pos h, if_pos h]
    · rw [if_neg h, if_neg h, if_neg h]
  · intro m p
    simp only [f_X11_mostOf_L8]
    rw [if_pos (by decide)]
    rfl
theorem it_bst (f : Nat → Nat) (hf : ∀ k, f k ≤ 6) : ∀ n, ∃ a : Nat, (a < n + 1) ∧ it (bst f) (n + 1) (0, -1) = (nI a, nI (f a))
  | 0 => by
    refine ⟨0, by omega, ?_⟩
    show bst f 0 (0, -1) = _
    unfold bst
    rw [if_neg]
    · rw [le_T, nT (by have := hf 0; omega)]
      show ¬ ((f 0 : Nat) : Int) ≤ -1
      omega
  | n + 1 => by
    obtain ⟨a, h1, h2⟩ := it_bst f hf n
    rw [it, h2]
    unfold bst
    by_cases h : nI (f (n + 1)) ≤ nI (f a)
    · rw [if_pos h]; exact ⟨a, by omega, rfl⟩
    · rw [if_neg h]; exact ⟨n + 1, by omega, rfl⟩
theorem s_kindC {S : mT} {kd e : Nat} (hk : kd ≤ 4) (h : S.2.2.2.2[e]? = some (.inl (cls kd, []))) : dv_kind (some (e + 60)) (mk S) = some (nI kd) := by
  unfold dv_kind
  rw [s_tO hk h, bS]
  match kd, hk with
  | 0, _ => rfl
  | 1, _ => rfl
  | 2, _ => rfl
  | 3, _ => rfl
  | 4, _ => rfl
-- 5 tosser
theorem v_tosser {N : Nat} {S : mT} (h : Inv N S) {t j : Nat} (ht : t ≤ 4) (eb : S.1 0 8 = nI t) (hj : j < t) (v : Int32) : ∃ r, f_X10_tosser 0 (nI j) v (mk S) = some r ∧ f_X11_tellTosser 38 (nI j) v (mk S) = some r := by
  obtain ⟨n, t', p, L, ⟨a1, a2, a3, a4, a5, a6, a7⟩, ⟨b1, b2, b3, b4, b5, b6, b7, b8⟩, hP, hK, hN, hI⟩ := id h
  have htt : t' = t := by
    have h1 := b3.symm.trans eb
    rw [n_eq (by omega) (by omega)] at h1
    exact h1
  subst htt
  obtain ⟨⟨c, c1, c2, c3, c4⟩, g2, g3, ⟨g4, g5⟩, g6, g7, g8⟩ := hN
  have g7' : S.1 9 8 = S.1 38 5 := g7
  have c2' : S.1 16 3 = nI c := c2
  have c3' : S.1 38 22 = nI c := c3
  obtain ⟨kd, e0, k1, k2, k3, k4⟩ := hK j hj
  obtain ⟨t1, t2, t3⟩ := g6 j hj
  have h4 : j < 4 := by omega
  have hb := s_bestC a1 a2 b1 b3 hK hj g2 g6 g5 g7'
  have hr := s_bestR (v := v) a1 a2 b2 hK hj g2 g4
  unfold f_X10_tosser f_X11_tellTosser
  rw [kk_0, bS, s_taS a2 b3 hj, bS, k3, oC_s]
  refine ite2 ?_ ?_
  · rw [s_kindC k1 k4, bS, rR_38_14, bS, aL_44 S h4, bS, k2]; exact ⟨_, rfl, rfl⟩
  refine ite2 ?_ ?_
  · rw [rR_0_3, bS, rR_9_3, bS, s_at (aG_13 S) (by decide) h4, bS, rR_38_15, bS, aL_45 S h4, bS, show S.2.1 13 j = S.2.1 45 j from t1]; exact ⟨_, rfl, rfl⟩
  refine ite2 ?_ ?_
  · rw [rR_0_3, bS, rR_9_4, bS, s_at (aG_14 S) (by decide) h4, bS, rR_38_16, bS, aL_46 S h4, bS, show S.2.1 14 j = S.2.1 46 j from t2]; exact ⟨_, rfl, rfl⟩
  refine ite2 ?_ ?_
  · rw [s_batC k1 k4, bS, rR_38_14, bS, aL_44 S h4, bS, k2, s_batR k1, bS]; exact ⟨_, rfl, rfl⟩
  by_cases hv4 : v = 4
  · rw [if_pos hv4, if_pos hv4, bS, hb, bS, kk_38, bS, hr, bS, if_pos hv4]
    exact ⟨_, rfl, rfl⟩
  rw [if_neg hv4, if_neg hv4]
  refine ite2 ?_ ?_
  · obtain ⟨a, ha, hit⟩ := it_bst (fr S n j) (fr_le S n j) 35
    rw [bS, hb, bS, bS, kk_38, bS, hr, bS, if_neg hv4, hit, s_fresh a1 a2 b1 b3 hK hj g2 g6 g5 g7', bS]
    exact ⟨_, rfl, rfl⟩
  refine ite2 ?_ ?_
  · rw [rR_0_3, bS, rR_9_6, bS, kk_16, bS, s_trnC c1 c2' c4, bS, kk_38, bS, s_trnR c1 c3', bS]
    exact ⟨_, rfl, rfl⟩
  refine ite2 ?_ ?_
  · obtain ⟨r, r1, r2⟩ := s_aim (a := bN (trn S c (nI j)) 5) (bN_lt _ 5) (mk S)
    unfold f_X11_aimOf
    rw [rR_0_3, bS, rR_9_6, bS, kk_16, bS, s_trnC c1 c2' c4, bS, r1, bS, kk_38, bS, bS, s_trnR c1 c3', bS, r2, bS]
    exact ⟨_, rfl, rfl⟩
  refine ite2 ?_ ?_
  · rw [rR_0_3, bS, rR_9_5, bS, s_at (aG_15 S) (by decide) h4, bS, rR_38_17, bS, aL_47 S h4, bS, show S.2.1 15 j = S.2.1 47 j from t3]; exact ⟨_, rfl, rfl⟩
  · exact ⟨_, rfl, rfl⟩
theorem op_tosser {N : Nat} {S : mT} (h : Inv N S) (x v : Int32) : ∃ r, f_X10_tosser 0 x v (mk S) = some r ∧ f_X11_tosser 38 x v (mk S) = some r := by
  obtain ⟨n, t, p, L, ⟨a1, a2, a3, a4, a5, a6, a7⟩, ⟨b1, b2, b3, b4, b5, b6, b7, b8⟩, hP, hK, hN, hI⟩ := id h
  by_cases hx : 0 ≤ x.toInt ∧ x.toInt < t
  · obtain ⟨j, h1, rfl, h3⟩ := nI_of' hx.1
    obtain ⟨r, r1, r2⟩ := v_tosser h a2 b3 (show j < t by omega) v
    refine ⟨r, r1, ?_⟩
    unfold f_X11_tosser f_X11_tosser_J19
    rw [kk_38, bS, s_isToR a2 b4, bS, if_pos hx, if_neg (by decide), bS, r2, bS]
  · refine ⟨-101, ?_, ?_⟩
    · unfold f_X10_tosser
      rw [kk_0, bS, s_taN a2 b3 hx, bS, oC_n]
    · unfold f_X11_tosser f_X11_tosser_J19
      rw [kk_38, bS, s_isToR a2 b4, bS, if_neg hx, if_pos rfl]
