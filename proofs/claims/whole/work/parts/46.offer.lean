def m32 (S : mT) (f g h i : Nat → Int32) : mT := uA (uA (uA (uA S 32 f) 33 g) 34 h) 35 i
theorem m32_0 {S : mT} {f g h i j : Nat → Int32} : uA (m32 S f g h i) 32 j = m32 S j g h i := by
  refine mT_ext rfl (fun r => ?_) rfl
  unfold m32 uA
  simp only
  repeat' split
  all_goals first | rfl | omega
theorem m32_1 {S : mT} {f g h i j : Nat → Int32} : uA (m32 S f g h i) 33 j = m32 S f j h i := by
  refine mT_ext rfl (fun r => ?_) rfl
  unfold m32 uA
  simp only
  repeat' split
  all_goals first | rfl | omega
theorem m32_2 {S : mT} {f g h i j : Nat → Int32} : uA (m32 S f g h i) 34 j = m32 S f g j i := by
  refine mT_ext rfl (fun r => ?_) rfl
  unfold m32 uA
  simp only
  repeat' split
  all_goals first | rfl | omega
theorem m32_3 {S : mT} {f g h i j : Nat → Int32} : uA (m32 S f g h i) 35 j = m32 S f g h j := by
  refine mT_ext rfl (fun r => ?_) rfl
  unfold m32 uA
  simp only
  repeat' split
  all_goals first | rfl | omega
theorem m32_r0 {S : mT} {f g h i : Nat → Int32} : (m32 S f g h i).2.1 32 = f := id rfl
theorem m32_r1 {S : mT} {f g h i : Nat → Int32} : (m32 S f g h i).2.1 33 = g := id rfl
theorem m32_r2 {S : mT} {f g h i : Nat → Int32} : (m32 S f g h i).2.1 34 = h := id rfl
theorem m32_r3 {S : mT} {f g h i : Nat → Int32} : (m32 S f g h i).2.1 35 = i := id rfl
theorem m32_i {S : mT} {f g h i : Nat → Int32} : (m32 S f g h i).1 = S.1 := id rfl
theorem m32_own {S : mT} : m32 S (S.2.1 32) (S.2.1 33) (S.2.1 34) (S.2.1 35) = S := by
  unfold m32
  rw [uA_id, uA_id, uA_id, uA_id]
/-- the cheapest of the first x tosses for crowd c of V -/
def chp (S : mT) (n V : Nat) : Nat → Nat → Nat
  | 0, _ => 1048576
  | x + 1, c => if cvf S n x &&& V = c then min (chp S n V x c) (16 * bf S x + 1) else chp S n V x c
theorem chp_le (S : mT) (n V : Nat) : ∀ x c, chp S n V x c ≤ 1048576
  | 0, _ => Nat.le_refl _
  | x + 1, c => by
    have := chp_le S n V x c
    rw [chp]
    split <;> omega
def PI (S : mT) (n V x : Nat) (p : (Nat → Int32) × (Nat → Int32) × (Nat → Int32)) : Prop := (∀ y, y < x → p.1 y = nI (cvf S n y &&& V) ∧ p.2.1 y = nI (16 * bf S y + 1)) ∧ (∀ y, x ≤ y → y < 144 → p.1 y = 0) ∧ ∀ c, c < 64 → p.2.2 c = nI (chp S n V x c)
def off (S : mT) (n V x : Nat) (p : (Nat → Int32) × (Nat → Int32) × (Nat → Int32)) : (Nat → Int32) × (Nat → Int32) × (Nat → Int32) := (upd p.1 x (nI (cvf S n x &&& V)), upd p.2.1 x (nI (16 * bf S x + 1)), upd p.2.2 (cvf S n x &&& V) (if p.2.2 (cvf S n x &&& V) < nI (16 * bf S x + 1) then p.2.2 (cvf S n x &&& V) else nI (16 * bf S x + 1)))
theorem off_PI {S : mT} {n V x : Nat} (hn : n ≤ 6) {p : (Nat → Int32) × (Nat → Int32) × (Nat → Int32)} (h : PI S n V x p) : PI S n V (x + 1) (off S n V x p) := by
  obtain ⟨h1, h2, h3⟩ := h
  have hb := (btN_b (kdO S (x / 36))).2
  have hbf : bf S x ≤ 5 := hb
  have hc : cvf S n x &&& V < 64 := and64 (bN_lt64 hn)
  refine ⟨fun y hy => ?_, fun y h4 h5 => ?_, fun c hc2 => ?_⟩
  · show upd p.1 x _ y = _ ∧ upd p.2.1 x _ y = _
    rw [upd_at, upd_at]
    by_cases hyx : y = x
    · rw [if_pos hyx, if_pos hyx, hyx]
      exact ⟨rfl, rfl⟩
    · rw [if_neg hyx, if_neg hyx]
      exact h1 y (by omega)
  · show upd p.1 x _ y = _
    rw [upd_at, if_neg (by omega)]
    exact h2 y (by omega) h5
  · show upd p.2.2 _ _ c = _
    rw [upd_at, chp, h3 _ hc]
    have l1 := chp_le S n V x (cvf S n x &&& V)
    by_cases hcc : c = cvf S n x &&& V
    · rw [if_pos hcc, if_pos hcc.symm, hcc]
      by_cases hl : chp S n V x (cvf S n x &&& V) < 16 * bf S x + 1
      · rw [if_pos ((n_lt (by omega) (by omega)).mpr hl), Nat.min_eq_left (by omega)]
      · rw [if_neg (fun z => hl ((n_lt (by omega) (by omega)).mp z)), Nat.min_eq_right (by omega)]
    · rw [if_neg hcc, if_neg (fun z => hcc z.symm)]
      exact h3 c hc2
theorem s_offer {S : mT} {n x : Nat} {V : Nat} (hn : n ≤ 6) (hx : x < 144) {b : Int32} (hb : b = nI (bf S x)) (f g h i : Nat → Int32) : f_X4_offer 31 (nI x) (nI (cvf S n x &&& V)) b (mk (m32 S f g h i)) = some (mk (m32 S (off S n V x (f, g, h)).1 (off S n V x (f, g, h)).2.1 (off S n V x (f, g, h)).2.2 i)) := by
  have hc : cvf S n x &&& V < 64 := and64 (bN_lt64 hn)
  unfold f_X4_offer
  rw [hb, show (16 : Int32) * nI (bf S x) + 1 = nI (16 * bf S x + 1) from by rw [show (16 : Int32) = nI 16 from rfl, n_mul, nI_1]]
  refine bnd (rR_31_0 _) ?_
  refine bnd ((s_put (aG_32 _) (by decide) hx _).trans (congrArg some (aW_32 _ _))) ?_
  rw [m32_r0, m32_0]
  refine bnd (rR_31_1 _) ?_
  refine bnd ((s_put (aG_33 _) (by decide) hx _).trans (congrArg some (aW_33 _ _))) ?_
  rw [m32_r1, m32_1]
  refine bnd (rR_31_2 _) ?_
  refine bnd (rR_31_2 _) ?_
  refine bnd (s_at (aG_34 _) (by decide) hc) ?_
  refine bnd ((s_put (aG_34 _) (by decide) hc _).trans (congrArg some (aW_34 _ _))) ?_
  rw [m32_r2, m32_2]
  rfl
theorem s_begin (S : mT) : ∃ h, f_X4_begin 31 (mk S) = some (mk (m32 S (cpy 144 (fun _ => 0) (S.2.1 32)) (cpy 144 (fun _ => 0) (S.2.1 33)) h (S.2.1 35))) ∧ ∀ c, c < 64 → h c = nI 1048576 := by
  have key : ∀ T, f_X4_begin_L16 31 mFuel 0 (mk T) = some (mk (uA T 34 (cpy 64 (fun _ => nI 1048576) (T.2.1 34)))) := by
    intro T
    have hl := loopK (fun m k => f_X4_begin_L16 31 m (nI k) (mk (uA T 34 (cpy k (fun _ => nI 1048576) (T.2.1 34))))) 64 (mk (uA T 34 (cpy 64 (fun _ => nI 1048576) (T.2.1 34)))) ?_ (fun m => ?he) mFuel (by unfold mFuel; omega)
    case he =>
      simp only [f_X4_begin_L16]
      rw [if_pos (by decide)]
    · have h0 : uA T 34 (cpy 0 (fun _ => nI 1048576) (T.2.1 34)) = T := by rw [cpy_0, uA_id]
      rw [h0] at hl
      exact hl
    · intro m k hk
      simp only [f_X4_begin_L16]
      rw [if_neg (show ¬ (64 : Int32) ≤ nI k by rw [show (64 : Int32) = nI 64 from rfl, n_le (by omega) (by omega)]; omega)]
      refine bnd (rR_31_2 _) ?_
      refine bnd ((s_put (aG_34 _) (by decide) hk _).trans (congrArg some (aW_34 _ _))) ?_
      rw [uA_s, uA_u, nI_1, ← cpy_s (n := k) (s := fun _ => nI 1048576)]
      rfl
  refine ⟨cpy 64 (fun _ => nI 1048576) (S.2.1 34), ?_, fun c hc => cpy_lt (s := fun _ => nI 1048576) hc⟩
  unfold f_X4_begin
  refine bnd (rR_31_0 _) ?_
  refine bnd (s_clear 32 144 (by decide) aG_32 aW_32 _) ?_
  refine bnd (rR_31_1 _) ?_
  refine bnd (s_clear 33 144 (by decide) aG_33 aW_33 _) ?_
  refine bnd (key _) ?_
  refine congrArg some (congrArg mk ?_)
  refine mT_ext rfl (fun r => ?_) rfl
  show (if r = 34 then _ else if r = 33 then _ else if r = 32 then _ else S.2.1 r) = (if r = 35 then S.2.1 35 else if r = 34 then _ else if r = 33 then _ else if r = 32 then _ else S.2.1 r)
  by_cases h35 : r = 35
  · subst h35
    rfl
  · rw [if_neg h35]
    rfl
theorem pf1 {S : mT} {n t j V : Nat} (hn : n ≤ 6) (ht : t ≤ 4) (e : S.1 0 7 = nI n) (e2 : S.1 0 8 = nI t) (e4 : S.1 9 8 = S.1 38 5) (hK : KR S t) (hj : j < t) (hC : NCells S n 9 rNow) (hT : NTurn S t 9 rNow) (i : Nat → Int32) {b : Int32} (hb : b = nI (btN (kdO S j))) (p : (Nat → Int32) × (Nat → Int32) × (Nat → Int32)) (hp : PI S n V (36 * j) p) : ∃ p', f_X10_planFor_L40 0 (nI V) (nI j) b mFuel 0 (mk (m32 S p.1 p.2.1 p.2.2 i)) = some (mk (m32 S p'.1 p'.2.1 p'.2.2 i)) ∧ PI S n V (36 * (j + 1)) p' := by
  have hl := loopF (fun m (p : (Nat → Int32) × (Nat → Int32) × (Nat → Int32)) k => f_X10_planFor_L40 0 (nI V) (nI j) b m (nI k) (mk (m32 S p.1 p.2.1 p.2.2 i))) 36 (fun k p => off S n V (36 * j + k) p) (fun p => mk (m32 S p.1 p.2.1 p.2.2 i)) (fun k p => PI S n V (36 * j + k) p) p hp ?_ ?_ mFuel (by unfold mFuel; omega)
  · exact ⟨_, hl.1, hl.2⟩
  · intro m k p hk hI
    refine ⟨?_, off_PI hn hI⟩
    have e1 : (36 * j + k) / 36 = j := by omega
    have e3 : (36 * j + k) % 36 = k := by omega
    have hcv : bN (cvr S j (nI k) (S.1 38 5)) n = cvf S n (36 * j + k) := by
      unfold cvf
      rw [e1, e3]
    simp only [f_X10_planFor_L40]
    rw [if_neg (show ¬ (36 : Int32) ≤ nI k by rw [show (36 : Int32) = nI 36 from rfl, n_le (by omega) (by omega)]; omega), show (36 : Int32) = nI 36 from rfl, n_mul, n_add, nI_1]
    refine bnd (rR_0_3 _) ?_
    refine bnd (rI_9_8 _) ?_
    refine bnd (kk_0 _) ?_
    rw [m32_i, e4]
    refine bnd (s_crw (S := m32 S p.1 p.2.1 p.2.2 i) hn ht e e2 hK hj hC hT _ _) ?_
    refine bnd (rR_0_5 _) ?_
    refine bnd (kk_31 _) ?_
    rw [show bN (cvr (m32 S p.1 p.2.1 p.2.2 i) j (nI k) (S.1 38 5)) n = cvf S n (36 * j + k) from hcv, n_and]
    refine bnd (s_offer hn (show 36 * j + k < 144 by omega) (hb.trans (by unfold bf; rw [e1])) _ _ _ _) ?_
    rfl
  · intro m p _
    simp only [f_X10_planFor_L40]
    rw [if_pos (by decide)]
theorem pf2 {S : mT} {n t V : Nat} (hn : n ≤ 6) (ht : t ≤ 4) (e : S.1 0 7 = nI n) (e2 : S.1 0 8 = nI t) (e4 : S.1 9 8 = S.1 38 5) (hK : KR S t) (hC : NCells S n 9 rNow) (hT : NTurn S t 9 rNow) (i : Nat → Int32) : ∀ (d j m : Nat) (p : (Nat → Int32) × (Nat → Int32) × (Nat → Int32)), j + d = t → d < m → PI S n V (36 * j) p → ∃ p', f_X10_planFor_L9 0 (nI V) m (nI j) (mk (m32 S p.1 p.2.1 p.2.2 i)) = some (mk (m32 S p'.1 p'.2.1 p'.2.2 i)) ∧ PI S n V (36 * t) p'
  | 0, j, m, p, hj, hm, hp => by
    obtain ⟨q, rfl⟩ : ∃ q, m = q + 1 := ⟨m - 1, by omega⟩
    have : j = t := by omega
    subst this
    refine ⟨p, ?_, hp⟩
    simp only [f_X10_planFor_L9]
    rw [rI_0_8, bS, m32_i, e2, if_pos (show nI j ≤ nI j by rw [n_le (by omega) (by omega)]; omega)]
  | d + 1, j, m, p, hj, hm, hp => by
    obtain ⟨q, rfl⟩ : ∃ q, m = q + 1 := ⟨m - 1, by omega⟩
    obtain ⟨kd, e0, g1, g2, g3, g4⟩ := hK j (by omega)
    obtain ⟨p1, k1, k2⟩ := pf1 (V := V) hn ht e e2 e4 hK (show j < t by omega) hC hT i (b := bat kd) (by rw [bat_n g1, kdO_eq g1 g2]) p hp
    obtain ⟨p2, k3, k4⟩ := pf2 hn ht e e2 e4 hK hC hT i d (j + 1) q p1 (by omega) (by omega) k2
    refine ⟨p2, ?_, k4⟩
    simp only [f_X10_planFor_L9, f_X10_planFor_J35]
    rw [rI_0_8, bS, m32_i, e2, if_neg (show ¬ nI t ≤ nI j by rw [n_le (by omega) (by omega)]; omega)]
    refine bnd (kk_0 _) ?_
    refine bnd (s_taS (S := m32 S p.1 p.2.1 p.2.2 i) ht e2 (show j < t by omega)) ?_
    rw [show (m32 S p.1 p.2.1 p.2.2 i).2.2.1 j = some (e0 + 60) from g3, oC_s]
    refine bnd (s_batC (S := m32 S p.1 p.2.1 p.2.2 i) g1 g4) ?_
    refine bnd k1 ?_
    rw [nI_1]
    exact k3
