theorem GQ_at {S : mT} {n T s : Nat} (hn : n ≤ 6) (hs : s < 64) : GQ s (GC S n T T s) (GR S n T T s) := Gm_Q (fun q => btN_b _) (fun q => bN_lt64 hn) T s hs
theorem qb_iff {S : mT} {n T s x : Nat} (hn : n ≤ 6) (hs : s < 64) (hi : GC S n T T s < 1048576) (hx : x < T) : qual 1000000 (fun q => 100 * bf S (T - 1 - q) + 1) (fun q => cvf S n (T - 1 - q)) T (T - 1 - x) s ↔ qb S n T s x = true := by
  have q1 := GQ_at (S := S) (T := T) hn hs
  have q2 := GQ_at (S := S) (T := T) hn (wo64 (cvf S n x) hs)
  have p1 := pop_le s
  have p2 := pop_le (wo s (cvf S n x))
  have hb := btN_b (kdO S (x / 36))
  have hbf : 1 ≤ bf S x ∧ bf S x ≤ 5 := hb
  have key : (100 * bf S x + 1 + GR S n T T (wo s (cvf S n x)) = GR S n T T s) ↔ (16 * bf S x + 1 + GC S n T T (wo s (cvf S n x)) = GC S n T T s) := by
    rcases q1 with ⟨a1, a2⟩ | ⟨B, k, a1, a2, a3, a4⟩
    · omega
    · rcases q2 with ⟨b1, b2⟩ | ⟨B', k', b1, b2, b3, b4⟩
      · constructor <;> intro h <;> omega
      · constructor <;> intro h <;> omega
  unfold qual qb
  rw [decide_eq_true_eq]
  simp only [show T - 1 - (T - 1 - x) = x by omega]
  constructor
  · intro ⟨h1, h2⟩
    exact ⟨hx, by rw [Nat.and_comm]; exact h1, key.mp h2⟩
  · intro ⟨_, h1, h2⟩
    exact ⟨by rw [Nat.and_comm]; exact h1, key.mpr h2⟩
theorem scan_iff {S : mT} {n T s v : Nat} (hn : n ≤ 6) (hs : s < 64) (hi : GC S n T T s < 1048576) (hv : v < T) (hno : ∀ x, x < v → qb S n T s x = false) : (100 * bf S v + 1 + GR S n T (T - (v + 1)) (wo s (cvf S n v)) = GR S n T (T - v) s) ↔ qb S n T s v = true := by
  have h := Gm_scan (I := 1000000) (p := fun q => 100 * bf S (T - 1 - q) + 1) (c := fun q => cvf S n (T - 1 - q)) (fun q => by omega) (fun q => bN_lt64 hn) (T := T) (r := T - 1 - v) (s := s) hs (by omega) (fun q q1 q2 hq => by
    have hx := (qb_iff (x := T - 1 - q) hn hs hi (by omega)).mp (by rw [show T - 1 - (T - 1 - q) = q by omega]; exact hq)
    rw [hno _ (by omega)] at hx
    exact absurd hx (by decide))
  rw [← qb_iff hn hs hi hv, ← h]
  simp only [show T - 1 - (T - 1 - v) = v by omega, show T - 1 - v + 1 = T - v by omega, show T - 1 - v = T - (v + 1) by omega, show T - 1 - (T - (v + 1)) = v by omega, show T - (v + 1) + 1 = T - v by omega]
  exact Iff.rfl
theorem GR_fin {S : mT} {n T s : Nat} (hn : n ≤ 6) (hs : s < 64) : GR S n T T s < 1000000 ↔ GC S n T T s < 1048576 := by
  have p1 := pop_le s
  rcases GQ_at (S := S) (T := T) hn hs with ⟨a1, a2⟩ | ⟨B, k, a1, a2, a3, a4⟩
  · omega
  · omega
def rw50 (A : mT) (r : Nat → Int32) (k : Nat) : mT := uI (uA A 50 r) 38 21 (nI k)
theorem rw50_u {A : mT} {r r' : Nat → Int32} {k k' : Nat} : uI (uA (rw50 A r k) 50 r') 38 21 (nI k') = rw50 A r' k' := by
  refine mT_ext (funext fun o => funext fun z => ?_) (fun a => ?_) rfl
  · show (if o = 38 ∧ z = 21 then nI k' else if o = 38 ∧ z = 21 then nI k else A.1 o z) = (if o = 38 ∧ z = 21 then nI k' else A.1 o z)
    by_cases ho : o = 38 ∧ z = 21
    · rw [if_pos ho, if_pos ho]
    · rw [if_neg ho, if_neg ho, if_neg ho]
  · show (if a = 50 then r' else if a = 50 then r else A.2.1 a) = (if a = 50 then r' else A.2.1 a)
    by_cases ha : a = 50
    · rw [if_pos ha, if_pos ha]
    · rw [if_neg ha, if_neg ha, if_neg ha]
theorem s_row {S : mT} {n t V : Nat} (hn : n ≤ 6) (ht : t ≤ 4) (hV : V < 64) (hK : KR S t) (hi : GC S n (36 * t) (36 * t) V < 1048576) {f g : Nat → Int32} (hg : TB S n (36 * t) 0 g) (hf : ∀ x, x < 36 * t → f x = nI (cvf S n x)) : ∀ (d v k m : Nat) (r : Nat → Int32), v + d = 36 * t → d < m → (∀ j, j < k → ¬ sqn S n (36 * t) V j = 0 ∧ r j = nI (nxt S n (36 * t) (sqn S n (36 * t) V j))) → (¬ sqn S n (36 * t) V k = 0 → ∀ x, x < v → qb S n (36 * t) (sqn S n (36 * t) V k) x = false) → ∃ (K : Nat) (r' : Nat → Int32), f_X11_layRow_L9 38 m (nI (sqn S n (36 * t) V k)) (nI v) (mk (rw50 (w2 S f g) r k)) = some (mk (rw50 (w2 S f g) r' K)) ∧ K ≤ 6 ∧ sqn S n (36 * t) V K = 0 ∧ ∀ j, j < K → ¬ sqn S n (36 * t) V j = 0 ∧ r' j = nI (nxt S n (36 * t) (sqn S n (36 * t) V j))
  | d, v, k, 0, r, hk, hm, hr, hno => absurd hm (by omega)
  | d, v, k, m + 1, r, hk, hm, hr, hno => by
    obtain ⟨h1, h2, h3, h4⟩ := sqn_ok hn (show 36 * t ≤ 144 by omega) hV hi k (fun j hj => (hr j hj).1)
    simp only [f_X11_layRow_L9, f_X11_layRow_J91]
    by_cases h0 : sqn S n (36 * t) V k = 0
    · rw [if_pos (show nI (sqn S n (36 * t) V k) ≤ 0 by rw [h0]; decide)]
      exact ⟨k, r, rfl, by omega, h0, hr⟩
    · obtain ⟨n1, n2, n3, n4⟩ := nxt_ok hn (show 36 * t ≤ 144 by omega) h1 h0 h3
      have hvn : v ≤ nxt S n (36 * t) (sqn S n (36 * t) V k) := by
        apply Classical.byContradiction
        intro hz
        have := hno h0 _ (show nxt S n (36 * t) (sqn S n (36 * t) V k) < v by omega)
        rw [n2] at this
        exact absurd this (by decide)
      have hv : v < 36 * t := by omega
      have hc : cvf S n v < 64 := bN_lt64 hn
      have hk6 : k < 6 := by
        apply Classical.byContradiction
        intro hz
        exact h0 (k_p0 ⟨_, h1⟩ (show pop (sqn S n (36 * t) V k) = 0 by omega))
      have hb := btN_b (kdO S (v / 36))
      have hbf : 1 ≤ bf S v ∧ bf S v ≤ 5 := hb
      have l1 := GR_le S n (36 * t) (36 * t - (v + 1)) (wo (sqn S n (36 * t) V k) (cvf S n v))
      have l2 := GR_le S n (36 * t) (36 * t - v) (sqn S n (36 * t) V k)
      have hsc := scan_iff hn h1 h3 hv (hno h0)
      rw [if_neg (show ¬ nI (sqn S n (36 * t) V k) ≤ 0 by rw [show (0 : Int32) = nI 0 from rfl, n_le (by omega) (by omega)]; omega), show (64 : Int32) = nI 64 from rfl, n_mul, n_add, n_add, nI_1]
      have hw : wo (sqn S n (36 * t) V k) (cvf S n v) < 64 := wo64 _ h1
      by_cases hq : qb S n (36 * t) (sqn S n (36 * t) V k) v = true
      · have hvx : nxt S n (36 * t) (sqn S n (36 * t) V k) = v := by
          apply Classical.byContradiction
          intro hz
          have := n4 v (by omega)
          rw [hq] at this
          exact absurd this (by decide)
        have hsq : sqn S n (36 * t) V (k + 1) = wo (sqn S n (36 * t) V k) (cvf S n v) := by rw [sqn, hvx]
        have hA : ∀ j, j < k + 1 → ¬ sqn S n (36 * t) V j = 0 ∧ upd r k (nI v) j = nI (nxt S n (36 * t) (sqn S n (36 * t) V j)) := by
          intro j hj
          show _ ∧ upd r k (nI v) j = _
          rw [upd_at]
          by_cases hjk : j = k
          · rw [if_pos hjk, hjk, hvx]
            exact ⟨h0, rfl⟩
          · rw [if_neg hjk]
            exact hr j (by omega)
        have hB : ¬ sqn S n (36 * t) V (k + 1) = 0 → ∀ x, x < v + 1 → qb S n (36 * t) (sqn S n (36 * t) V (k + 1)) x = false := by
          intro h5 x hx
          rw [hsq]
          cases hqx : qb S n (36 * t) (wo (sqn S n (36 * t) V k) (cvf S n v)) x
          · rfl
          · obtain ⟨z1, z2, z3⟩ := of_decide_eq_true hqx
            have hqv := of_decide_eq_true hq
            have hs5 : GC S n (36 * t) (36 * t) (wo (sqn S n (36 * t) V k) (cvf S n v)) < 1048576 := by omega
            have hQ := (qb_iff hn hw hs5 z1).mpr hqx
            have hQv := (qb_iff hn h1 h3 hv).mpr hq
            by_cases hxv : x = v
            · subst hxv
              have := qual_self (I := 1000000) (p := fun q => 100 * bf S (36 * t - 1 - q) + 1) (c := fun q => cvf S n (36 * t - 1 - q)) (T := 36 * t) (q := 36 * t - 1 - x) (s := sqn S n (36 * t) V k) h1 (bN_lt64 hn)
              simp only [show 36 * t - 1 - (36 * t - 1 - x) = x by omega] at this
              exact absurd hQ this
            · have hnx := hno h0 x (by omega)
              have := qual_down (I := 1000000) (p := fun q => 100 * bf S (36 * t - 1 - q) + 1) (c := fun q => cvf S n (36 * t - 1 - q)) (T := 36 * t) (q := 36 * t - 1 - v) (q' := 36 * t - 1 - x) (s := sqn S n (36 * t) V k) (by omega) (by omega) hQv (fun hz => by
                rw [(qb_iff hn h1 h3 z1).mp hz] at hnx
                exact absurd hnx (by decide))
              simp only [show 36 * t - 1 - (36 * t - 1 - v) = v by omega] at this
              exact absurd hQ this
        obtain ⟨K, r', y1, y2, y3, y4⟩ := s_row hn ht hV hK hi hg hf (d - 1) (v + 1) (k + 1) m (upd r k (nI v)) (by omega) (by omega) hA hB
        refine ⟨K, r', ?_, y2, y3, y4⟩
        refine bnd (kk_38 _) ?_
        refine bnd (s_price (S := rw50 (w2 S f g) r k) ht hK hv) ?_
        refine bnd (rR_38_19 _) ?_
        refine bnd (rR_38_18 _) ?_
        refine bnd (aL_48 _ (show v < 144 by omega)) ?_
        rw [show (rw50 (w2 S f g) r k).2.1 48 v = nI (cvf S n v) from hf v hv, n_wo h1 hc, n_add]
        refine bnd (aL_49 _ (show 64 * v + 64 + wo (sqn S n (36 * t) V k) (cvf S n v) < 9280 by omega)) ?_
        rw [show (rw50 (w2 S f g) r k).2.1 49 (64 * v + 64 + wo (sqn S n (36 * t) V k) (cvf S n v)) = nI (GR S n (36 * t) (36 * t - (v + 1)) (wo (sqn S n (36 * t) V k) (cvf S n v))) from by
          rw [show 64 * v + 64 + wo (sqn S n (36 * t) V k) (cvf S n v) = 64 * (v + 1) + wo (sqn S n (36 * t) V k) (cvf S n v) by omega]
          exact hg (v + 1) _ (by omega) (by omega) hw]
        refine bnd (rR_38_19 _) ?_
        refine bnd (aL_49 _ (show 64 * v + sqn S n (36 * t) V k < 9280 by omega)) ?_
        rw [show (rw50 (w2 S f g) r k).2.1 49 (64 * v + sqn S n (36 * t) V k) = nI (GR S n (36 * t) (36 * t - v) (sqn S n (36 * t) V k)) from hg v _ (by omega) (by omega) h1, show bf (rw50 (w2 S f g) r k) v = bf S v from rfl, n_add]
        rw [if_pos (congrArg nI (hsc.mpr hq))]
        refine bnd (rR_38_20 _) ?_
        refine bnd (rI_38_21 _) ?_
        rw [show (rw50 (w2 S f g) r k).1 38 21 = nI k from rfl]
        refine bnd (aS_50 _ _ hk6) ?_
        refine bnd (rI_38_21 _) ?_
        rw [show (uA (rw50 (w2 S f g) r k) 50 (upd ((rw50 (w2 S f g) r k).2.1 50) k (nI v))).1 38 21 = nI k from rfl, nI_1]
        refine bnd (wI_38_21 _ _) ?_
        refine bnd (rR_38_18 _) ?_
        refine bnd (aL_48 _ (show v < 144 by omega)) ?_
        rw [rw50_u, show (rw50 (w2 S f g) (upd ((rw50 (w2 S f g) r k).2.1 50) k (nI v)) (k + 1)).2.1 48 v = nI (cvf S n v) from hf v hv, n_wo h1 hc]
        rw [← hsq]
        exact y1
      · have hB : ¬ sqn S n (36 * t) V k = 0 → ∀ x, x < v + 1 → qb S n (36 * t) (sqn S n (36 * t) V k) x = false := by
          intro h5 x hx
          by_cases hxv : x = v
          · rw [hxv]
            simpa using hq
          · exact hno h5 x (by omega)
        obtain ⟨K, r', y1, y2, y3, y4⟩ := s_row hn ht hV hK hi hg hf (d - 1) (v + 1) k m r (by omega) (by omega) hr hB
        refine ⟨K, r', ?_, y2, y3, y4⟩
        refine bnd (kk_38 _) ?_
        refine bnd (s_price (S := rw50 (w2 S f g) r k) ht hK hv) ?_
        refine bnd (rR_38_19 _) ?_
        refine bnd (rR_38_18 _) ?_
        refine bnd (aL_48 _ (show v < 144 by omega)) ?_
        rw [show (rw50 (w2 S f g) r k).2.1 48 v = nI (cvf S n v) from hf v hv, n_wo h1 hc, n_add]
        refine bnd (aL_49 _ (show 64 * v + 64 + wo (sqn S n (36 * t) V k) (cvf S n v) < 9280 by omega)) ?_
        rw [show (rw50 (w2 S f g) r k).2.1 49 (64 * v + 64 + wo (sqn S n (36 * t) V k) (cvf S n v)) = nI (GR S n (36 * t) (36 * t - (v + 1)) (wo (sqn S n (36 * t) V k) (cvf S n v))) from by
          rw [show 64 * v + 64 + wo (sqn S n (36 * t) V k) (cvf S n v) = 64 * (v + 1) + wo (sqn S n (36 * t) V k) (cvf S n v) by omega]
          exact hg (v + 1) _ (by omega) (by omega) hw]
        refine bnd (rR_38_19 _) ?_
        refine bnd (aL_49 _ (show 64 * v + sqn S n (36 * t) V k < 9280 by omega)) ?_
        rw [show (rw50 (w2 S f g) r k).2.1 49 (64 * v + sqn S n (36 * t) V k) = nI (GR S n (36 * t) (36 * t - v) (sqn S n (36 * t) V k)) from hg v _ (by omega) (by omega) h1, show bf (rw50 (w2 S f g) r k) v = bf S v from rfl, n_add]
        rw [if_neg (show ¬ nI (100 * bf S v + 1 + GR S n (36 * t) (36 * t - (v + 1)) (wo (sqn S n (36 * t) V k) (cvf S n v))) = nI (GR S n (36 * t) (36 * t - v) (sqn S n (36 * t) V k)) by rw [n_eq (by omega) (by omega)]; exact fun z => hq (hsc.mp z))]
        exact y1
