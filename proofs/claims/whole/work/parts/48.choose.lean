/-- toss x belongs to a best cover of s -/
def qb (S : mT) (n T s x : Nat) : Bool := decide (x < T ∧ ¬ cvf S n x &&& s = 0 ∧ 16 * bf S x + 1 + GC S n T T (wo s (cvf S n x)) = GC S n T T s)
def nxt (S : mT) (n T s : Nat) : Nat := (fst? (qb S n T s) 0 144).getD 0
theorem nxt_ok {S : mT} {n T s : Nat} (hn : n ≤ 6) (hT : T ≤ 144) (hs : s < 64) (h0 : ¬ s = 0) (hi : GC S n T T s < 1048576) : fst? (qb S n T s) 0 144 = some (nxt S n T s) ∧ qb S n T s (nxt S n T s) = true ∧ nxt S n T s < T ∧ ∀ x, x < nxt S n T s → qb S n T s x = false := by
  obtain ⟨x, x1, x2, x3⟩ := GC_B hn hs h0 hi
  have hx : qb S n T s x = true := decide_eq_true ⟨x1, by rw [Nat.and_comm]; exact x2, x3⟩
  unfold nxt
  cases h : fst? (qb S n T s) 0 144 with
  | none =>
    have := fst?_none h x (by omega) (by omega)
    rw [hx] at this
    exact absurd this (by decide)
  | some y =>
    obtain ⟨y1, y2, y3, y4⟩ := fst?_some h
    exact ⟨rfl, y3, (of_decide_eq_true y3).1, fun z hz => y4 z (by omega) hz⟩
theorem s_first {S : mT} {n V T s : Nat} (hn : n ≤ 6) (hT : T ≤ 144) (hV : V < 64) (hs : s < 64) (h0 : ¬ s = 0) (hsV : s &&& V = s) (hi : GC S n T T s < 1048576) {p : (Nat → Int32) × (Nat → Int32) × (Nat → Int32)} (hp : PI S n V T p) {i : Nat → Int32} (hl : LT S n V T 64 i) {A : mT} (r0 : A.2.1 32 = p.1) (r1 : A.2.1 33 = p.2.1) (r3 : A.2.1 35 = i) : f_X4_firstFor 31 (nI s) (mk A) = some (nI (nxt S n T s)) := by
  have hL := loopR (fun m k => f_X4_firstFor_L2 31 (nI s) (mk A) m (nI k)) (qb S n T s) (fun x => Sum.inl (nI x)) (Sum.inr ()) 144 0 mFuel ?_ ?_ (by unfold mFuel; omega)
  · unfold f_X4_firstFor
    rw [(nxt_ok hn hT hs h0 hi).1] at hL
    rw [show f_X4_firstFor_L2 31 (nI s) (mk A) mFuel 0 = _ from hL, bS]
  · intro m k _ hk
    simp only [f_X4_firstFor_L2, f_X4_firstFor_J58]
    rw [if_neg (show ¬ (144 : Int32) ≤ nI k by rw [show (144 : Int32) = nI 144 from rfl, n_le (by omega) (by omega)]; omega), nI_1]
    refine bnd (rR_31_0 _) ?_
    refine bnd (s_at (aG_32 _) (by decide) (show k < 144 by omega)) ?_
    rw [r0]
    by_cases hkT : k < T
    · obtain ⟨c1, c2⟩ := hp.1 k hkT
      have hc : cvf S n k < 64 := bN_lt64 hn
      have e1 : (cvf S n k &&& V) &&& s = cvf S n k &&& s := by rw [Nat.and_assoc, Nat.and_comm V, hsV]
      have hb := (btN_b (kdO S (k / 36))).2
      have hbf : bf S k ≤ 5 := hb
      have g1 := GC_le S n T T (wo s (cvf S n k))
      rw [c1, n_and, e1]
      have hlt : cvf S n k &&& s < 64 := and64 hc
      by_cases hd : cvf S n k &&& s = 0
      · rw [if_pos (show nI (cvf S n k &&& s) = 0 by rw [hd]; rfl), if_neg (show ¬ qb S n T s k = true by unfold qb; simp [hd])]
      · rw [if_neg (show ¬ nI (cvf S n k &&& s) = 0 by rw [show (0 : Int32) = nI 0 from rfl, n_eq (by omega) (by omega)]; exact hd)]
        refine bnd (rR_31_1 _) ?_
        refine bnd (s_at (aG_33 _) (by decide) (show k < 144 by omega)) ?_
        refine bnd (rR_31_3 _) ?_
        rw [n_wo hs (and64 hc), wo_mask hs hV hc hsV]
        refine bnd (s_at (aG_35 _) (by decide) (wo64 _ hs)) ?_
        refine bnd (rR_31_3 _) ?_
        refine bnd (s_at (aG_35 _) (by decide) hs) ?_
        rw [r1, r3, c2, hl _ (wo64 _ hs) (wo_sub hsV), hl _ hs hsV, n_add]
        by_cases he : 16 * bf S k + 1 + GC S n T T (wo s (cvf S n k)) = GC S n T T s
        · rw [if_pos (congrArg nI he), if_pos (show qb S n T s k = true from decide_eq_true ⟨hkT, hd, he⟩)]
        · rw [if_neg (show ¬ nI (16 * bf S k + 1 + GC S n T T (wo s (cvf S n k))) = nI (GC S n T T s) by rw [n_eq (by omega) (by omega)]; exact he), if_neg (show ¬ qb S n T s k = true by unfold qb; simp [he])]
    · rw [hp.2.1 k (by omega) (by omega), if_pos (show (0 : Int32) &&& nI s = 0 from Int32.zero_and), if_neg (show ¬ qb S n T s k = true by unfold qb; simp [hkT])]
  · intro m
    simp only [f_X4_firstFor_L2]
    rw [if_pos (by decide)]
/-- what is still to be covered after k tosses -/
def sqn (S : mT) (n T V : Nat) : Nat → Nat
  | 0 => V
  | k + 1 => wo (sqn S n T V k) (cvf S n (nxt S n T (sqn S n T V k)))
theorem sqn_ok {S : mT} {n T V : Nat} (hn : n ≤ 6) (hT : T ≤ 144) (hV : V < 64) (hi : GC S n T T V < 1048576) : ∀ k, (∀ j, j < k → ¬ sqn S n T V j = 0) → sqn S n T V k < 64 ∧ sqn S n T V k &&& V = sqn S n T V k ∧ GC S n T T (sqn S n T V k) < 1048576 ∧ pop (sqn S n T V k) + k ≤ 6
  | 0, _ => ⟨hV, Nat.and_self V, hi, by have := pop_le V; show pop V + 0 ≤ 6; omega⟩
  | k + 1, h => by
    obtain ⟨h1, h2, h3, h4⟩ := sqn_ok hn hT hV hi k (fun j hj => h j (by omega))
    obtain ⟨n1, n2, n3, n4⟩ := nxt_ok hn hT h1 (h k (by omega)) h3
    obtain ⟨q1, q2, q3⟩ := of_decide_eq_true n2
    refine ⟨wo64 _ h1, wo_sub h2, ?_, ?_⟩
    · show GC S n T T (wo _ _) < _
      omega
    · have := pop_wo (a := cvf S n (nxt S n T (sqn S n T V k))) h1 (bN_lt64 hn) (by rw [Nat.and_comm]; exact q2)
      show pop (wo _ _) + (k + 1) ≤ 6
      omega
def cho (A : mT) (r : Nat → Int32) (k : Nat) : mT := uI (uA A 36 r) 31 5 (nI k)
theorem s_cho {S : mT} {n V T : Nat} (hn : n ≤ 6) (hT : T ≤ 144) (hV : V < 64) (hi : GC S n T T V < 1048576) {p : (Nat → Int32) × (Nat → Int32) × (Nat → Int32)} (hp : PI S n V T p) {i : Nat → Int32} (hl : LT S n V T 64 i) {A : mT} (r0 : A.2.1 32 = p.1) (r1 : A.2.1 33 = p.2.1) (r3 : A.2.1 35 = i) (e6 : A.1 31 6 = nI (GC S n T T V)) : ∀ (d k m : Nat) (r : Nat → Int32), k + d = 6 → d < m → (∀ j, j < k → ¬ sqn S n T V j = 0 ∧ r j = nI (nxt S n T (sqn S n T V j))) → ∃ (K : Nat) (r' : Nat → Int32), f_X4_choose_L9 31 m (nI (sqn S n T V k)) (nI k) (mk (cho A r k)) = some (mk (cho A r' K)) ∧ K ≤ 6 ∧ sqn S n T V K = 0 ∧ ∀ j, j < K → ¬ sqn S n T V j = 0 ∧ r' j = nI (nxt S n T (sqn S n T V j))
  | 0, k, m, r, hk, hm, hr => by
    obtain ⟨q, rfl⟩ : ∃ q, m = q + 1 := ⟨m - 1, by omega⟩
    have hk6 : k = 6 := by omega
    subst hk6
    obtain ⟨h1, h2, h3, h4⟩ := sqn_ok hn hT hV hi 6 (fun j hj => (hr j hj).1)
    refine ⟨6, r, ?_, by omega, k_p0 ⟨_, h1⟩ (show pop (sqn S n T V 6) = 0 by omega), hr⟩
    simp only [f_X4_choose_L9]
    rw [if_pos (by decide)]
  | d + 1, k, m, r, hk, hm, hr => by
    obtain ⟨q, rfl⟩ : ∃ q, m = q + 1 := ⟨m - 1, by omega⟩
    obtain ⟨h1, h2, h3, h4⟩ := sqn_ok hn hT hV hi k (fun j hj => (hr j hj).1)
    simp only [f_X4_choose_L9]
    rw [if_neg (show ¬ (6 : Int32) ≤ nI k by rw [show (6 : Int32) = nI 6 from rfl, n_le (by omega) (by omega)]; omega)]
    by_cases h0 : sqn S n T V k = 0
    · rw [if_pos (show nI (sqn S n T V k) = 0 by rw [h0]; rfl)]
      exact ⟨k, r, rfl, by omega, h0, hr⟩
    · rw [if_neg (show ¬ nI (sqn S n T V k) = 0 by rw [show (0 : Int32) = nI 0 from rfl, n_eq (by omega) (by omega)]; exact h0)]
      obtain ⟨n1, n2, n3, n4⟩ := nxt_ok hn hT h1 h0 h3
      have hc : cvf S n (nxt S n T (sqn S n T V k)) < 64 := bN_lt64 hn
      obtain ⟨K, r', k1, k2, k3, k4⟩ := s_cho hn hT hV hi hp hl r0 r1 r3 e6 d (k + 1) q (upd r k (nI (nxt S n T (sqn S n T V k)))) (by omega) (by omega) (fun j hj => by
        rw [upd_at]
        by_cases hjk : j = k
        · rw [if_pos hjk, hjk]
          exact ⟨h0, rfl⟩
        · rw [if_neg hjk]
          exact hr j (by omega))
      refine ⟨K, r', ?_, k2, k3, k4⟩
      refine bnd (rI_31_6 _) ?_
      rw [show (cho A r k).1 31 6 = nI (GC S n T T V) from e6, if_neg (show ¬ (1048576 : Int32) ≤ nI (GC S n T T V) by rw [show (1048576 : Int32) = nI 1048576 from rfl, n_le (by omega) (by omega)]; omega)]
      refine bnd (kk_31 _) ?_
      refine bnd (s_first hn hT hV h1 h0 h2 h3 hp hl r0 r1 r3) ?_
      refine bnd (rR_31_4 _) ?_
      refine bnd ((s_put (aG_36 _) (by decide) (show k < 6 by omega) _).trans (congrArg some (aW_36 _ _))) ?_
      refine bnd (rI_31_5 _) ?_
      rw [show (uA (cho A r k) 36 (upd ((cho A r k).2.1 36) k (nI (nxt S n T (sqn S n T V k))))).1 31 5 = nI k from rfl, nI_1]
      refine bnd (wI_31_5 _ _) ?_
      refine bnd (rR_31_0 _) ?_
      refine bnd (s_at (aG_32 _) (by decide) (show nxt S n T (sqn S n T V k) < 144 by omega)) ?_
      have hw : uI (uA (cho A r k) 36 (upd ((cho A r k).2.1 36) k (nI (nxt S n T (sqn S n T V k))))) 31 5 (nI (k + 1)) = cho A (upd r k (nI (nxt S n T (sqn S n T V k)))) (k + 1) := by
        refine mT_ext (funext fun o => funext fun z => ?_) (fun a => ?_) rfl
        · show (if o = 31 ∧ z = 5 then nI (k + 1) else if o = 31 ∧ z = 5 then nI k else A.1 o z) = (if o = 31 ∧ z = 5 then nI (k + 1) else A.1 o z)
          by_cases ho : o = 31 ∧ z = 5
          · rw [if_pos ho, if_pos ho]
          · rw [if_neg ho, if_neg ho, if_neg ho]
        · show (if a = 36 then upd r k (nI (nxt S n T (sqn S n T V k))) else if a = 36 then r else A.2.1 a) = (if a = 36 then upd r k (nI (nxt S n T (sqn S n T V k))) else A.2.1 a)
          by_cases ha : a = 36
          · rw [if_pos ha, if_pos ha]
          · rw [if_neg ha, if_neg ha, if_neg ha]
      rw [hw, show (cho A (upd r k (nI (nxt S n T (sqn S n T V k)))) (k + 1)).2.1 32 = p.1 from r0, (hp.1 _ n3).1, n_wo h1 (and64 hc), wo_mask h1 hV hc h2]
      exact k1
